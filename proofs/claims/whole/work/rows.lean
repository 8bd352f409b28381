section
-- ===== PART A: goes FIRST, ahead of the names: the tables' words, and 'selects' of the private methods out of them =====
/-- a private method of a class that the tables say can be made, by its rows of tables_1 -/
def lw_okq (q : MethodName × Nat) : Prop := (q.1.cls ≠ "java/lang/invoke/MethodHandle" ∧ q.1.cls ≠ "java/lang/invoke/VarHandle") ∧ Cond.instantiable q.1.cls q.2 ∈ tables_1 ∧ Cond.privateMethod q.1 ∈ tables_1 ∧ Cond.instanceMethod q.1 ∈ tables_1
theorem lw_p0 : lw_okq (⟨"ContestRows$Puzzles", "putFalling", "(I)V"⟩, 7) := ⟨⟨by decide +kernel, by decide +kernel⟩, List.mem_of_getElem? (i := 24) (by decide +kernel), List.mem_of_getElem? (i := 179) (by decide +kernel), List.mem_of_getElem? (i := 180) (by decide +kernel)⟩
theorem lw_p1 : lw_okq (⟨"ContestRows$Puzzles", "reachWith", "(I)V"⟩, 7) := ⟨⟨by decide +kernel, by decide +kernel⟩, List.mem_of_getElem? (i := 24) (by decide +kernel), List.mem_of_getElem? (i := 183) (by decide +kernel), List.mem_of_getElem? (i := 184) (by decide +kernel)⟩
theorem lw_p2 : lw_okq (⟨"ContestRows$RuleText", "endOfDigits", "(I)I"⟩, 2) := ⟨⟨by decide +kernel, by decide +kernel⟩, List.mem_of_getElem? (i := 117) (by decide +kernel), List.mem_of_getElem? (i := 308) (by decide +kernel), List.mem_of_getElem? (i := 309) (by decide +kernel)⟩
theorem lw_p3 : lw_okq (⟨"ContestRows$RuleText", "number", "(II)I"⟩, 2) := ⟨⟨by decide +kernel, by decide +kernel⟩, List.mem_of_getElem? (i := 117) (by decide +kernel), List.mem_of_getElem? (i := 312) (by decide +kernel), List.mem_of_getElem? (i := 313) (by decide +kernel)⟩
theorem lw_p4 : lw_okq (⟨"ContestRows$Submissions", "putInTime", "(I)V"⟩, 7) := ⟨⟨by decide +kernel, by decide +kernel⟩, List.mem_of_getElem? (i := 83) (by decide +kernel), List.mem_of_getElem? (i := 354) (by decide +kernel), List.mem_of_getElem? (i := 355) (by decide +kernel)⟩
theorem lw_p5 : lw_okq (⟨"ContestRows", "secondsFromStart", "(I)I"⟩, 9) := ⟨⟨by decide +kernel, by decide +kernel⟩, List.mem_of_getElem? (i := 16) (by decide +kernel), List.mem_of_getElem? (i := 370) (by decide +kernel), List.mem_of_getElem? (i := 371) (by decide +kernel)⟩
theorem lw_p6 : lw_okq (⟨"ContestRows", "workOutAll", "()V"⟩, 9) := ⟨⟨by decide +kernel, by decide +kernel⟩, List.mem_of_getElem? (i := 16) (by decide +kernel), List.mem_of_getElem? (i := 383) (by decide +kernel), List.mem_of_getElem? (i := 384) (by decide +kernel)⟩
theorem lw_p7 : lw_okq (⟨"ContestRows", "workOut", "(I)V"⟩, 9) := ⟨⟨by decide +kernel, by decide +kernel⟩, List.mem_of_getElem? (i := 16) (by decide +kernel), List.mem_of_getElem? (i := 387) (by decide +kernel), List.mem_of_getElem? (i := 388) (by decide +kernel)⟩
theorem lw_p8 : lw_okq (⟨"ContestRows", "take", "(II)V"⟩, 9) := ⟨⟨by decide +kernel, by decide +kernel⟩, List.mem_of_getElem? (i := 16) (by decide +kernel), List.mem_of_getElem? (i := 395) (by decide +kernel), List.mem_of_getElem? (i := 396) (by decide +kernel)⟩
theorem lw_p9 : lw_okq (⟨"ContestRows$Persons", "isAhead", "(IIZ)Z"⟩, 5) := ⟨⟨by decide +kernel, by decide +kernel⟩, List.mem_of_getElem? (i := 55) (by decide +kernel), List.mem_of_getElem? (i := 418) (by decide +kernel), List.mem_of_getElem? (i := 419) (by decide +kernel)⟩
theorem lw_p10 : lw_okq (⟨"ContestRows$Persons", "howManyBefore", "(IZ)I"⟩, 5) := ⟨⟨by decide +kernel, by decide +kernel⟩, List.mem_of_getElem? (i := 55) (by decide +kernel), List.mem_of_getElem? (i := 434) (by decide +kernel), List.mem_of_getElem? (i := 435) (by decide +kernel)⟩
theorem lw_p11 : lw_okq (⟨"ContestRows$Submissions", "isTwin", "(II)Z"⟩, 7) := ⟨⟨by decide +kernel, by decide +kernel⟩, List.mem_of_getElem? (i := 83) (by decide +kernel), List.mem_of_getElem? (i := 456) (by decide +kernel), List.mem_of_getElem? (i := 457) (by decide +kernel)⟩
theorem lw_p12 : lw_okq (⟨"ContestRows$Puzzles", "leastSet", "(I)I"⟩, 7) := ⟨⟨by decide +kernel, by decide +kernel⟩, List.mem_of_getElem? (i := 24) (by decide +kernel), List.mem_of_getElem? (i := 480) (by decide +kernel), List.mem_of_getElem? (i := 481) (by decide +kernel)⟩
theorem lw_p13 : lw_okq (⟨"ContestRowsModel", "readRule", "(I)I"⟩, 22) := ⟨⟨by decide +kernel, by decide +kernel⟩, List.mem_of_getElem? (i := 492) (by decide +kernel), List.mem_of_getElem? (i := 581) (by decide +kernel), List.mem_of_getElem? (i := 582) (by decide +kernel)⟩
theorem lw_p14 : lw_okq (⟨"ContestRowsModel", "byteAt", "(I)I"⟩, 22) := ⟨⟨by decide +kernel, by decide +kernel⟩, List.mem_of_getElem? (i := 492) (by decide +kernel), List.mem_of_getElem? (i := 585) (by decide +kernel), List.mem_of_getElem? (i := 586) (by decide +kernel)⟩
theorem lw_p15 : lw_okq (⟨"ContestRowsModel", "isDigit", "(I)Z"⟩, 22) := ⟨⟨by decide +kernel, by decide +kernel⟩, List.mem_of_getElem? (i := 492) (by decide +kernel), List.mem_of_getElem? (i := 592) (by decide +kernel), List.mem_of_getElem? (i := 593) (by decide +kernel)⟩
def lw_privs_1 : List (MethodName × Nat) := [(⟨"ContestRows$Puzzles", "putFalling", "(I)V"⟩, 7), (⟨"ContestRows$Puzzles", "reachWith", "(I)V"⟩, 7), (⟨"ContestRows$RuleText", "endOfDigits", "(I)I"⟩, 2), (⟨"ContestRows$RuleText", "number", "(II)I"⟩, 2), (⟨"ContestRows$Submissions", "putInTime", "(I)V"⟩, 7), (⟨"ContestRows", "secondsFromStart", "(I)I"⟩, 9), (⟨"ContestRows", "workOutAll", "()V"⟩, 9), (⟨"ContestRows", "workOut", "(I)V"⟩, 9), (⟨"ContestRows", "take", "(II)V"⟩, 9), (⟨"ContestRows$Persons", "isAhead", "(IIZ)Z"⟩, 5), (⟨"ContestRows$Persons", "howManyBefore", "(IZ)I"⟩, 5), (⟨"ContestRows$Submissions", "isTwin", "(II)Z"⟩, 7), (⟨"ContestRows$Puzzles", "leastSet", "(I)I"⟩, 7), (⟨"ContestRowsModel", "readRule", "(I)I"⟩, 22), (⟨"ContestRowsModel", "byteAt", "(I)I"⟩, 22), (⟨"ContestRowsModel", "isDigit", "(I)Z"⟩, 22)]
theorem lw_r1 : ∀ q ∈ lw_privs_1, lw_okq q := List.forall_mem_cons.mpr ⟨lw_p0, List.forall_mem_cons.mpr ⟨lw_p1, List.forall_mem_cons.mpr ⟨lw_p2, List.forall_mem_cons.mpr ⟨lw_p3, List.forall_mem_cons.mpr ⟨lw_p4, List.forall_mem_cons.mpr ⟨lw_p5, List.forall_mem_cons.mpr ⟨lw_p6, List.forall_mem_cons.mpr ⟨lw_p7, List.forall_mem_cons.mpr ⟨lw_p8, List.forall_mem_cons.mpr ⟨lw_p9, List.forall_mem_cons.mpr ⟨lw_p10, List.forall_mem_cons.mpr ⟨lw_p11, List.forall_mem_cons.mpr ⟨lw_p12, List.forall_mem_cons.mpr ⟨lw_p13, List.forall_mem_cons.mpr ⟨lw_p14, List.forall_mem_cons.mpr ⟨lw_p15, fun _ h => absurd h List.not_mem_nil⟩⟩⟩⟩⟩⟩⟩⟩⟩⟩⟩⟩⟩⟩⟩⟩
theorem lw_p16 : lw_okq (⟨"ContestRowsModel", "isPerson", "(I)Z"⟩, 22) := ⟨⟨by decide +kernel, by decide +kernel⟩, List.mem_of_getElem? (i := 492) (by decide +kernel), List.mem_of_getElem? (i := 600) (by decide +kernel), List.mem_of_getElem? (i := 601) (by decide +kernel)⟩
theorem lw_p17 : lw_okq (⟨"ContestRowsModel", "isPuzzle", "(I)Z"⟩, 22) := ⟨⟨by decide +kernel, by decide +kernel⟩, List.mem_of_getElem? (i := 492) (by decide +kernel), List.mem_of_getElem? (i := 609) (by decide +kernel), List.mem_of_getElem? (i := 610) (by decide +kernel)⟩
theorem lw_p18 : lw_okq (⟨"ContestRowsModel", "isRow", "(I)Z"⟩, 22) := ⟨⟨by decide +kernel, by decide +kernel⟩, List.mem_of_getElem? (i := 492) (by decide +kernel), List.mem_of_getElem? (i := 617) (by decide +kernel), List.mem_of_getElem? (i := 618) (by decide +kernel)⟩
theorem lw_p19 : lw_okq (⟨"ContestRowsModel", "isLate", "(I)Z"⟩, 22) := ⟨⟨by decide +kernel, by decide +kernel⟩, List.mem_of_getElem? (i := 492) (by decide +kernel), List.mem_of_getElem? (i := 625) (by decide +kernel), List.mem_of_getElem? (i := 626) (by decide +kernel)⟩
theorem lw_p20 : lw_okq (⟨"ContestRowsModel", "secondsOf", "(I)I"⟩, 22) := ⟨⟨by decide +kernel, by decide +kernel⟩, List.mem_of_getElem? (i := 492) (by decide +kernel), List.mem_of_getElem? (i := 629) (by decide +kernel), List.mem_of_getElem? (i := 630) (by decide +kernel)⟩
theorem lw_p21 : lw_okq (⟨"ContestRowsModel", "scoreOf", "(I)J"⟩, 22) := ⟨⟨by decide +kernel, by decide +kernel⟩, List.mem_of_getElem? (i := 492) (by decide +kernel), List.mem_of_getElem? (i := 638) (by decide +kernel), List.mem_of_getElem? (i := 639) (by decide +kernel)⟩
theorem lw_p22 : lw_okq (⟨"ContestRowsModel", "counting", "(II)I"⟩, 22) := ⟨⟨by decide +kernel, by decide +kernel⟩, List.mem_of_getElem? (i := 492) (by decide +kernel), List.mem_of_getElem? (i := 642) (by decide +kernel), List.mem_of_getElem? (i := 643) (by decide +kernel)⟩
theorem lw_p23 : lw_okq (⟨"ContestRowsModel", "isOf", "(III)Z"⟩, 22) := ⟨⟨by decide +kernel, by decide +kernel⟩, List.mem_of_getElem? (i := 492) (by decide +kernel), List.mem_of_getElem? (i := 646) (by decide +kernel), List.mem_of_getElem? (i := 647) (by decide +kernel)⟩
theorem lw_p24 : lw_okq (⟨"ContestRowsModel", "isAhead", "(II)Z"⟩, 22) := ⟨⟨by decide +kernel, by decide +kernel⟩, List.mem_of_getElem? (i := 492) (by decide +kernel), List.mem_of_getElem? (i := 650) (by decide +kernel), List.mem_of_getElem? (i := 651) (by decide +kernel)⟩
theorem lw_p25 : lw_okq (⟨"ContestRowsModel", "pointsOf", "(II)J"⟩, 22) := ⟨⟨by decide +kernel, by decide +kernel⟩, List.mem_of_getElem? (i := 492) (by decide +kernel), List.mem_of_getElem? (i := 654) (by decide +kernel), List.mem_of_getElem? (i := 655) (by decide +kernel)⟩
theorem lw_p26 : lw_okq (⟨"ContestRowsModel", "timeOf", "(I)J"⟩, 22) := ⟨⟨by decide +kernel, by decide +kernel⟩, List.mem_of_getElem? (i := 492) (by decide +kernel), List.mem_of_getElem? (i := 658) (by decide +kernel), List.mem_of_getElem? (i := 659) (by decide +kernel)⟩
theorem lw_p27 : lw_okq (⟨"ContestRowsModel", "reckon", "()V"⟩, 22) := ⟨⟨by decide +kernel, by decide +kernel⟩, List.mem_of_getElem? (i := 492) (by decide +kernel), List.mem_of_getElem? (i := 662) (by decide +kernel), List.mem_of_getElem? (i := 663) (by decide +kernel)⟩
theorem lw_p28 : lw_okq (⟨"ContestRowsModel", "isBetter", "(II)Z"⟩, 22) := ⟨⟨by decide +kernel, by decide +kernel⟩, List.mem_of_getElem? (i := 492) (by decide +kernel), List.mem_of_getElem? (i := 666) (by decide +kernel), List.mem_of_getElem? (i := 667) (by decide +kernel)⟩
theorem lw_p29 : lw_okq (⟨"ContestRowsModel", "isAlike", "(II)Z"⟩, 22) := ⟨⟨by decide +kernel, by decide +kernel⟩, List.mem_of_getElem? (i := 492) (by decide +kernel), List.mem_of_getElem? (i := 678) (by decide +kernel), List.mem_of_getElem? (i := 679) (by decide +kernel)⟩
theorem lw_p30 : lw_okq (⟨"ContestRowsModel", "firstWrong", "(III)I"⟩, 22) := ⟨⟨by decide +kernel, by decide +kernel⟩, List.mem_of_getElem? (i := 492) (by decide +kernel), List.mem_of_getElem? (i := 690) (by decide +kernel), List.mem_of_getElem? (i := 691) (by decide +kernel)⟩
theorem lw_p31 : lw_okq (⟨"ContestRowsModel", "tellPair", "(IIII)I"⟩, 22) := ⟨⟨by decide +kernel, by decide +kernel⟩, List.mem_of_getElem? (i := 492) (by decide +kernel), List.mem_of_getElem? (i := 694) (by decide +kernel), List.mem_of_getElem? (i := 695) (by decide +kernel)⟩
def lw_privs_2 : List (MethodName × Nat) := [(⟨"ContestRowsModel", "isPerson", "(I)Z"⟩, 22), (⟨"ContestRowsModel", "isPuzzle", "(I)Z"⟩, 22), (⟨"ContestRowsModel", "isRow", "(I)Z"⟩, 22), (⟨"ContestRowsModel", "isLate", "(I)Z"⟩, 22), (⟨"ContestRowsModel", "secondsOf", "(I)I"⟩, 22), (⟨"ContestRowsModel", "scoreOf", "(I)J"⟩, 22), (⟨"ContestRowsModel", "counting", "(II)I"⟩, 22), (⟨"ContestRowsModel", "isOf", "(III)Z"⟩, 22), (⟨"ContestRowsModel", "isAhead", "(II)Z"⟩, 22), (⟨"ContestRowsModel", "pointsOf", "(II)J"⟩, 22), (⟨"ContestRowsModel", "timeOf", "(I)J"⟩, 22), (⟨"ContestRowsModel", "reckon", "()V"⟩, 22), (⟨"ContestRowsModel", "isBetter", "(II)Z"⟩, 22), (⟨"ContestRowsModel", "isAlike", "(II)Z"⟩, 22), (⟨"ContestRowsModel", "firstWrong", "(III)I"⟩, 22), (⟨"ContestRowsModel", "tellPair", "(IIII)I"⟩, 22)]
theorem lw_r2 : ∀ q ∈ lw_privs_2, lw_okq q := List.forall_mem_cons.mpr ⟨lw_p16, List.forall_mem_cons.mpr ⟨lw_p17, List.forall_mem_cons.mpr ⟨lw_p18, List.forall_mem_cons.mpr ⟨lw_p19, List.forall_mem_cons.mpr ⟨lw_p20, List.forall_mem_cons.mpr ⟨lw_p21, List.forall_mem_cons.mpr ⟨lw_p22, List.forall_mem_cons.mpr ⟨lw_p23, List.forall_mem_cons.mpr ⟨lw_p24, List.forall_mem_cons.mpr ⟨lw_p25, List.forall_mem_cons.mpr ⟨lw_p26, List.forall_mem_cons.mpr ⟨lw_p27, List.forall_mem_cons.mpr ⟨lw_p28, List.forall_mem_cons.mpr ⟨lw_p29, List.forall_mem_cons.mpr ⟨lw_p30, List.forall_mem_cons.mpr ⟨lw_p31, fun _ h => absurd h List.not_mem_nil⟩⟩⟩⟩⟩⟩⟩⟩⟩⟩⟩⟩⟩⟩⟩⟩
theorem lw_p32 : lw_okq (⟨"ContestRowsModel", "next", "()I"⟩, 22) := ⟨⟨by decide +kernel, by decide +kernel⟩, List.mem_of_getElem? (i := 492) (by decide +kernel), List.mem_of_getElem? (i := 702) (by decide +kernel), List.mem_of_getElem? (i := 703) (by decide +kernel)⟩
def lw_privs_3 : List (MethodName × Nat) := [(⟨"ContestRowsModel", "next", "()I"⟩, 22)]
theorem lw_r3 : ∀ q ∈ lw_privs_3, lw_okq q := List.forall_mem_cons.mpr ⟨lw_p32, fun _ h => absurd h List.not_mem_nil⟩
def lw_privs : List (MethodName × Nat) := lw_privs_1 ++ (lw_privs_2 ++ (lw_privs_3))
def lw_tbl : List Cond := k2_sels lw_privs ++ tables_1
theorem lw_privs_ok : ∀ q ∈ lw_privs, lw_okq q := by
  show ∀ q ∈ lw_privs_1 ++ (lw_privs_2 ++ (lw_privs_3)), lw_okq q
  exact List.forall_mem_append.mpr ⟨lw_r1, List.forall_mem_append.mpr ⟨lw_r2, lw_r3⟩⟩
end
section
def F_Persons : u_T := fun k => match k with
  | 0 => ("ContestRows$Persons", "starts", "[I", true)
  | 1 => ("ContestRows$Persons", "scores", "[J", true)
  | 2 => ("ContestRows$Persons", "times", "[J", true)
  | 3 => ("ContestRows$Persons", "counts", "[I", true)
  | _ => ("ContestRows$Persons", "many", "I", false)
def t_Persons : Nat → FieldType := fun k => match k with
  | 0 => .array .int
  | 1 => .array .long
  | 2 => .array .long
  | 3 => .array .int
  | _ => .int
theorem n_Persons : ∀ a, a < 5 → ∀ b, b < 5 → a ≠ b → (F_Persons a).2.1 ≠ (F_Persons b).2.1 := by decide +kernel
theorem t_Persons_ok : ∀ k, k < 5 → parseFieldDescriptor (F_Persons k).2.2.1 = some (t_Persons k) := by decide +kernel
def F_Puzzles : u_T := fun k => match k with
  | 0 => ("ContestRows$Puzzles", "grades", "[I", true)
  | 1 => ("ContestRows$Puzzles", "many", "I", false)
  | 2 => ("ContestRows$Puzzles", "falling", "[I", true)
  | 3 => ("ContestRows$Puzzles", "reached", "[Z", true)
  | 4 => ("ContestRows$Puzzles", "total", "I", false)
  | 5 => ("ContestRows$Puzzles", "setSums", "[I", true)
  | _ => ("ContestRows$Puzzles", "setCounts", "[I", true)
def t_Puzzles : Nat → FieldType := fun k => match k with
  | 0 => .array .int
  | 1 => .int
  | 2 => .array .int
  | 3 => .array .boolean
  | 4 => .int
  | 5 => .array .int
  | _ => .array .int
theorem n_Puzzles : ∀ a, a < 7 → ∀ b, b < 7 → a ≠ b → (F_Puzzles a).2.1 ≠ (F_Puzzles b).2.1 := by decide +kernel
theorem t_Puzzles_ok : ∀ k, k < 7 → parseFieldDescriptor (F_Puzzles k).2.2.1 = some (t_Puzzles k) := by decide +kernel
def F_RuleText : u_T := fun k => match k with
  | 0 => ("ContestRows$RuleText", "units", "[I", true)
  | _ => ("ContestRows$RuleText", "length", "I", false)
def t_RuleText : Nat → FieldType := fun k => match k with
  | 0 => .array .int
  | _ => .int
theorem n_RuleText : ∀ a, a < 2 → ∀ b, b < 2 → a ≠ b → (F_RuleText a).2.1 ≠ (F_RuleText b).2.1 := by decide +kernel
theorem t_RuleText_ok : ∀ k, k < 2 → parseFieldDescriptor (F_RuleText k).2.2.1 = some (t_RuleText k) := by decide +kernel
def F_Rules : u_T := fun k => match k with
  | 0 => ("ContestRows$Rules", "now", "[I", true)
  | _ => ("ContestRows$Rules", "told", "[I", true)
def t_Rules : Nat → FieldType := fun k => match k with
  | 0 => .array .int
  | _ => .array .int
theorem n_Rules : ∀ a, a < 2 → ∀ b, b < 2 → a ≠ b → (F_Rules a).2.1 ≠ (F_Rules b).2.1 := by decide +kernel
theorem t_Rules_ok : ∀ k, k < 2 → parseFieldDescriptor (F_Rules k).2.2.1 = some (t_Rules k) := by decide +kernel
def F_Submissions : u_T := fun k => match k with
  | 0 => ("ContestRows$Submissions", "persons", "[I", true)
  | 1 => ("ContestRows$Submissions", "puzzles", "[I", true)
  | 2 => ("ContestRows$Submissions", "seconds", "[I", true)
  | 3 => ("ContestRows$Submissions", "rights", "[Z", true)
  | 4 => ("ContestRows$Submissions", "inTime", "[I", true)
  | 5 => ("ContestRows$Submissions", "many", "I", false)
  | _ => ("ContestRows$Submissions", "answers", "[I", true)
def t_Submissions : Nat → FieldType := fun k => match k with
  | 0 => .array .int
  | 1 => .array .int
  | 2 => .array .int
  | 3 => .array .boolean
  | 4 => .array .int
  | 5 => .int
  | _ => .array .int
theorem n_Submissions : ∀ a, a < 7 → ∀ b, b < 7 → a ≠ b → (F_Submissions a).2.1 ≠ (F_Submissions b).2.1 := by decide +kernel
theorem t_Submissions_ok : ∀ k, k < 7 → parseFieldDescriptor (F_Submissions k).2.2.1 = some (t_Submissions k) := by decide +kernel
def F_Top : u_T := fun k => match k with
  | 0 => ("ContestRows", "puzzles", "LContestRows$Puzzles;", true)
  | 1 => ("ContestRows", "persons", "LContestRows$Persons;", true)
  | 2 => ("ContestRows", "submissions", "LContestRows$Submissions;", true)
  | 3 => ("ContestRows", "text", "LContestRows$RuleText;", true)
  | 4 => ("ContestRows", "inForce", "LContestRows$Rules;", true)
  | 5 => ("ContestRows", "wrongs", "[I", true)
  | 6 => ("ContestRows", "settled", "[Z", true)
  | 7 => ("ContestRows", "gained", "[J", true)
  | _ => ("ContestRows", "twins", "[I", true)
def t_Top : Nat → FieldType := fun k => match k with
  | 0 => .object "ContestRows$Puzzles"
  | 1 => .object "ContestRows$Persons"
  | 2 => .object "ContestRows$Submissions"
  | 3 => .object "ContestRows$RuleText"
  | 4 => .object "ContestRows$Rules"
  | 5 => .array .int
  | 6 => .array .boolean
  | 7 => .array .long
  | _ => .array .int
theorem n_Top : ∀ a, a < 9 → ∀ b, b < 9 → a ≠ b → (F_Top a).2.1 ≠ (F_Top b).2.1 := by decide +kernel
theorem t_Top_ok : ∀ k, k < 9 → parseFieldDescriptor (F_Top k).2.2.1 = some (t_Top k) := by decide +kernel
def F_Model : u_T := fun k => match k with
  | 0 => ("ContestRowsModel", "thrown", "I", false)
  | 1 => ("ContestRowsModel", "puzzles", "I", false)
  | 2 => ("ContestRowsModel", "persons", "I", false)
  | 3 => ("ContestRowsModel", "many", "I", false)
  | 4 => ("ContestRowsModel", "grades", "[I", true)
  | 5 => ("ContestRowsModel", "starts", "[I", true)
  | 6 => ("ContestRowsModel", "who", "[I", true)
  | 7 => ("ContestRowsModel", "which", "[I", true)
  | 8 => ("ContestRowsModel", "when", "[I", true)
  | 9 => ("ContestRowsModel", "answers", "[I", true)
  | 10 => ("ContestRowsModel", "rights", "[Z", true)
  | 11 => ("ContestRowsModel", "rules", "[I", true)
  | 12 => ("ContestRowsModel", "told", "[I", true)
  | 13 => ("ContestRowsModel", "size", "I", false)
  | 14 => ("ContestRowsModel", "text", "[I", true)
  | 15 => ("ContestRowsModel", "bad", "I", false)
  | 16 => ("ContestRowsModel", "sums", "[I", true)
  | 17 => ("ContestRowsModel", "counts", "[I", true)
  | 18 => ("ContestRowsModel", "isPut", "[Z", true)
  | 19 => ("ContestRowsModel", "canBe", "[Z", true)
  | 20 => ("ContestRowsModel", "scores", "[J", true)
  | _ => ("ContestRowsModel", "times", "[J", true)
def t_Model : Nat → FieldType := fun k => match k with
  | 0 => .int
  | 1 => .int
  | 2 => .int
  | 3 => .int
  | 4 => .array .int
  | 5 => .array .int
  | 6 => .array .int
  | 7 => .array .int
  | 8 => .array .int
  | 9 => .array .int
  | 10 => .array .boolean
  | 11 => .array .int
  | 12 => .array .int
  | 13 => .int
  | 14 => .array .int
  | 15 => .int
  | 16 => .array .int
  | 17 => .array .int
  | 18 => .array .boolean
  | 19 => .array .boolean
  | 20 => .array .long
  | _ => .array .long
theorem n_Model : ∀ a, a < 22 → ∀ b, b < 22 → a ≠ b → (F_Model a).2.1 ≠ (F_Model b).2.1 := by decide +kernel
theorem t_Model_ok : ∀ k, k < 22 → parseFieldDescriptor (F_Model k).2.2.1 = some (t_Model k) := by decide +kernel
abbrev vwCl : List vw_C := [("ContestRows$Persons", F_Persons, 5), ("ContestRows$Puzzles", F_Puzzles, 7), ("ContestRows$RuleText", F_RuleText, 2), ("ContestRows$Rules", F_Rules, 2), ("ContestRows$Submissions", F_Submissions, 7), ("ContestRows", F_Top, 9), ("ContestRowsModel", F_Model, 22)]
def TBL : List Cond := lw_tbl.filter goodWord
theorem TBL_good (w : Cond) (h : w ∈ TBL) : (w.onTables && w.keeps) = true ∨ ∃ ty, w = .arrayClass ty := good_of_word (List.mem_filter.mp h).2
theorem TBL_in {w : Cond} (h : w ∈ lw_tbl) (g : goodWord w = true) : w ∈ TBL := List.mem_filter.mpr ⟨h, g⟩
theorem TBL_t {w : Cond} (h : w ∈ tables_1) (g : goodWord w = true) : w ∈ TBL := TBL_in (List.mem_append_right _ h) g
theorem i_Persons : ∀ w ∈ u_ws "ContestRows$Persons" F_Persons 5, w ∈ TBL := by decide +kernel
theorem i_Puzzles : ∀ w ∈ u_ws "ContestRows$Puzzles" F_Puzzles 7, w ∈ TBL := by decide +kernel
theorem i_RuleText : ∀ w ∈ u_ws "ContestRows$RuleText" F_RuleText 2, w ∈ TBL := by decide +kernel
theorem i_Rules : ∀ w ∈ u_ws "ContestRows$Rules" F_Rules 2, w ∈ TBL := by decide +kernel
theorem i_Submissions : ∀ w ∈ u_ws "ContestRows$Submissions" F_Submissions 7, w ∈ TBL := by decide +kernel
theorem i_Top : ∀ w ∈ u_ws "ContestRows" F_Top 9, w ∈ TBL := by decide +kernel
theorem i_Model : ∀ w ∈ u_ws "ContestRowsModel" F_Model 22, w ∈ TBL := by decide +kernel
def y_Persons_init : MethodName := ⟨"ContestRows$Persons", "<init>", "()V"⟩
abbrev b_Persons_init : ByteArray := prog_2_method_1_code
def y_Persons_has : MethodName := ⟨"ContestRows$Persons", "has", "(I)Z"⟩
abbrev b_Persons_has : ByteArray := prog_2_method_2_code
def y_Persons_add : MethodName := ⟨"ContestRows$Persons", "add", "()I"⟩
abbrev b_Persons_add : ByteArray := prog_2_method_3_code
def y_Persons_clearSums : MethodName := ⟨"ContestRows$Persons", "clearSums", "(I)V"⟩
abbrev b_Persons_clearSums : ByteArray := prog_2_method_4_code
def y_Persons_addToSums : MethodName := ⟨"ContestRows$Persons", "addToSums", "(IJI)V"⟩
abbrev b_Persons_addToSums : ByteArray := prog_2_method_5_code
def y_Persons_alike : MethodName := ⟨"ContestRows$Persons", "alike", "(IIZ)Z"⟩
abbrev b_Persons_alike : ByteArray := prog_2_method_6_code
def y_Persons_isAhead : MethodName := ⟨"ContestRows$Persons", "isAhead", "(IIZ)Z"⟩
abbrev b_Persons_isAhead : ByteArray := prog_2_method_7_code
def y_Persons_rankOf : MethodName := ⟨"ContestRows$Persons", "rankOf", "(IZ)I"⟩
abbrev b_Persons_rankOf : ByteArray := prog_2_method_8_code
def y_Persons_inPlace : MethodName := ⟨"ContestRows$Persons", "inPlace", "(IZ)I"⟩
abbrev b_Persons_inPlace : ByteArray := prog_2_method_9_code
def y_Persons_howManyBefore : MethodName := ⟨"ContestRows$Persons", "howManyBefore", "(IZ)I"⟩
abbrev b_Persons_howManyBefore : ByteArray := prog_2_method_10_code
def y_Puzzles_init : MethodName := ⟨"ContestRows$Puzzles", "<init>", "()V"⟩
abbrev b_Puzzles_init : ByteArray := prog_3_method_1_code
def y_Puzzles_has : MethodName := ⟨"ContestRows$Puzzles", "has", "(I)Z"⟩
abbrev b_Puzzles_has : ByteArray := prog_3_method_2_code
def y_Puzzles_add : MethodName := ⟨"ContestRows$Puzzles", "add", "(I)I"⟩
abbrev b_Puzzles_add : ByteArray := prog_3_method_3_code
def y_Puzzles_putFalling : MethodName := ⟨"ContestRows$Puzzles", "putFalling", "(I)V"⟩
abbrev b_Puzzles_putFalling : ByteArray := prog_3_method_4_code
def y_Puzzles_reachWith : MethodName := ⟨"ContestRows$Puzzles", "reachWith", "(I)V"⟩
abbrev b_Puzzles_reachWith : ByteArray := prog_3_method_5_code
def y_Puzzles_leastDifference : MethodName := ⟨"ContestRows$Puzzles", "leastDifference", "()I"⟩
abbrev b_Puzzles_leastDifference : ByteArray := prog_3_method_6_code
def y_Puzzles_setOf : MethodName := ⟨"ContestRows$Puzzles", "setOf", "(II)I"⟩
abbrev b_Puzzles_setOf : ByteArray := prog_3_method_7_code
def y_Puzzles_leastSet : MethodName := ⟨"ContestRows$Puzzles", "leastSet", "(I)I"⟩
abbrev b_Puzzles_leastSet : ByteArray := prog_3_method_8_code
def y_RuleText_init : MethodName := ⟨"ContestRows$RuleText", "<init>", "()V"⟩
abbrev b_RuleText_init : ByteArray := prog_4_method_1_code
def y_RuleText_add : MethodName := ⟨"ContestRows$RuleText", "add", "(I)Z"⟩
abbrev b_RuleText_add : ByteArray := prog_4_method_2_code
def y_RuleText_clear : MethodName := ⟨"ContestRows$RuleText", "clear", "()V"⟩
abbrev b_RuleText_clear : ByteArray := prog_4_method_3_code
def y_RuleText_read : MethodName := ⟨"ContestRows$RuleText", "read", "(LContestRows$Rules;)I"⟩
abbrev b_RuleText_read : ByteArray := prog_4_method_4_code
def y_RuleText_refusal : MethodName := ⟨"ContestRows$RuleText", "refusal", "(I)I"⟩
abbrev b_RuleText_refusal : ByteArray := prog_4_method_5_code
def y_RuleText_endOfDigits : MethodName := ⟨"ContestRows$RuleText", "endOfDigits", "(I)I"⟩
abbrev b_RuleText_endOfDigits : ByteArray := prog_4_method_6_code
def y_RuleText_number : MethodName := ⟨"ContestRows$RuleText", "number", "(II)I"⟩
abbrev b_RuleText_number : ByteArray := prog_4_method_7_code
def y_Rules_init : MethodName := ⟨"ContestRows$Rules", "<init>", "()V"⟩
abbrev b_Rules_init : ByteArray := prog_5_method_1_code
def y_Rules_beginTelling : MethodName := ⟨"ContestRows$Rules", "beginTelling", "()V"⟩
abbrev b_Rules_beginTelling : ByteArray := prog_5_method_2_code
def y_Rules_tell : MethodName := ⟨"ContestRows$Rules", "tell", "(II)V"⟩
abbrev b_Rules_tell : ByteArray := prog_5_method_3_code
def y_Rules_endTelling : MethodName := ⟨"ContestRows$Rules", "endTelling", "()V"⟩
abbrev b_Rules_endTelling : ByteArray := prog_5_method_4_code
def y_Rules_isLate : MethodName := ⟨"ContestRows$Rules", "isLate", "(I)Z"⟩
abbrev b_Rules_isLate : ByteArray := prog_5_method_5_code
def y_Rules_timesPart : MethodName := ⟨"ContestRows$Rules", "timesPart", "()Z"⟩
abbrev b_Rules_timesPart : ByteArray := prog_5_method_6_code
def y_Rules_worth : MethodName := ⟨"ContestRows$Rules", "worth", "(III)J"⟩
abbrev b_Rules_worth : ByteArray := prog_5_method_7_code
def y_Submissions_init : MethodName := ⟨"ContestRows$Submissions", "<init>", "()V"⟩
abbrev b_Submissions_init : ByteArray := prog_6_method_1_code
def y_Submissions_has : MethodName := ⟨"ContestRows$Submissions", "has", "(I)Z"⟩
abbrev b_Submissions_has : ByteArray := prog_6_method_2_code
def y_Submissions_add : MethodName := ⟨"ContestRows$Submissions", "add", "(IIIIZ)I"⟩
abbrev b_Submissions_add : ByteArray := prog_6_method_3_code
def y_Submissions_putInTime : MethodName := ⟨"ContestRows$Submissions", "putInTime", "(I)V"⟩
abbrev b_Submissions_putInTime : ByteArray := prog_6_method_4_code
def y_Submissions_anyEarlier : MethodName := ⟨"ContestRows$Submissions", "anyEarlier", "(II)Z"⟩
abbrev b_Submissions_anyEarlier : ByteArray := prog_6_method_5_code
def y_Submissions_findTwins : MethodName := ⟨"ContestRows$Submissions", "findTwins", "(I[I)V"⟩
abbrev b_Submissions_findTwins : ByteArray := prog_6_method_6_code
def y_Submissions_isTwin : MethodName := ⟨"ContestRows$Submissions", "isTwin", "(II)Z"⟩
abbrev b_Submissions_isTwin : ByteArray := prog_6_method_7_code
def y_Submissions_secondsBetween : MethodName := ⟨"ContestRows$Submissions", "secondsBetween", "(II)I"⟩
abbrev b_Submissions_secondsBetween : ByteArray := prog_6_method_8_code
def y_Submissions_tellPair : MethodName := ⟨"ContestRows$Submissions", "tellPair", "(III)I"⟩
abbrev b_Submissions_tellPair : ByteArray := prog_6_method_9_code
def y_Top_init : MethodName := ⟨"ContestRows", "<init>", "()V"⟩
abbrev b_Top_init : ByteArray := prog_1_method_1_code
def y_Top_puzzle : MethodName := ⟨"ContestRows", "puzzle", "(I)I"⟩
abbrev b_Top_puzzle : ByteArray := prog_1_method_2_code
def y_Top_person : MethodName := ⟨"ContestRows", "person", "()I"⟩
abbrev b_Top_person : ByteArray := prog_1_method_3_code
def y_Top_unit : MethodName := ⟨"ContestRows", "unit", "(I)Z"⟩
abbrev b_Top_unit : ByteArray := prog_1_method_4_code
def y_Top_rules : MethodName := ⟨"ContestRows", "rules", "()I"⟩
abbrev b_Top_rules : ByteArray := prog_1_method_5_code
def y_Top_start : MethodName := ⟨"ContestRows", "start", "(II)Z"⟩
abbrev b_Top_start : ByteArray := prog_1_method_6_code
def y_Top_submit : MethodName := ⟨"ContestRows", "submit", "(IIIIZ)I"⟩
abbrev b_Top_submit : ByteArray := prog_1_method_7_code
def y_Top_correct : MethodName := ⟨"ContestRows", "correct", "(IZ)Z"⟩
abbrev b_Top_correct : ByteArray := prog_1_method_8_code
def y_Top_late : MethodName := ⟨"ContestRows", "late", "(I)Z"⟩
abbrev b_Top_late : ByteArray := prog_1_method_9_code
def y_Top_score : MethodName := ⟨"ContestRows", "score", "(II)J"⟩
abbrev b_Top_score : ByteArray := prog_1_method_10_code
def y_Top_points : MethodName := ⟨"ContestRows", "points", "(II)J"⟩
abbrev b_Top_points : ByteArray := prog_1_method_11_code
def y_Top_place : MethodName := ⟨"ContestRows", "place", "(I)I"⟩
abbrev b_Top_place : ByteArray := prog_1_method_12_code
def y_Top_shared : MethodName := ⟨"ContestRows", "shared", "(II)Z"⟩
abbrev b_Top_shared : ByteArray := prog_1_method_13_code
def y_Top_suspicious : MethodName := ⟨"ContestRows", "suspicious", "(II)I"⟩
abbrev b_Top_suspicious : ByteArray := prog_1_method_14_code
def y_Top_even : MethodName := ⟨"ContestRows", "even", "(II)I"⟩
abbrev b_Top_even : ByteArray := prog_1_method_15_code
def y_Top_apart : MethodName := ⟨"ContestRows", "apart", "()I"⟩
abbrev b_Top_apart : ByteArray := prog_1_method_16_code
def y_Top_secondsFromStart : MethodName := ⟨"ContestRows", "secondsFromStart", "(I)I"⟩
abbrev b_Top_secondsFromStart : ByteArray := prog_1_method_17_code
def y_Top_workOutAll : MethodName := ⟨"ContestRows", "workOutAll", "()V"⟩
abbrev b_Top_workOutAll : ByteArray := prog_1_method_18_code
def y_Top_workOut : MethodName := ⟨"ContestRows", "workOut", "(I)V"⟩
abbrev b_Top_workOut : ByteArray := prog_1_method_19_code
def y_Top_take : MethodName := ⟨"ContestRows", "take", "(II)V"⟩
abbrev b_Top_take : ByteArray := prog_1_method_20_code
def y_Model_init : MethodName := ⟨"ContestRowsModel", "<init>", "()V"⟩
abbrev b_Model_init : ByteArray := prog_8_method_1_code
def y_Model_isPuzzle : MethodName := ⟨"ContestRowsModel", "isPuzzle", "(I)Z"⟩
abbrev b_Model_isPuzzle : ByteArray := prog_8_method_3_code
def y_Model_isPerson : MethodName := ⟨"ContestRowsModel", "isPerson", "(I)Z"⟩
abbrev b_Model_isPerson : ByteArray := prog_8_method_4_code
def y_Model_isRow : MethodName := ⟨"ContestRowsModel", "isRow", "(I)Z"⟩
abbrev b_Model_isRow : ByteArray := prog_8_method_5_code
def y_Model_puzzle : MethodName := ⟨"ContestRowsModel", "puzzle", "(I)I"⟩
abbrev b_Model_puzzle : ByteArray := prog_8_method_6_code
def y_Model_person : MethodName := ⟨"ContestRowsModel", "person", "()I"⟩
abbrev b_Model_person : ByteArray := prog_8_method_7_code
def y_Model_unit : MethodName := ⟨"ContestRowsModel", "unit", "(I)Z"⟩
abbrev b_Model_unit : ByteArray := prog_8_method_8_code
def y_Model_byteAt : MethodName := ⟨"ContestRowsModel", "byteAt", "(I)I"⟩
abbrev b_Model_byteAt : ByteArray := prog_8_method_9_code
def y_Model_isDigit : MethodName := ⟨"ContestRowsModel", "isDigit", "(I)Z"⟩
abbrev b_Model_isDigit : ByteArray := prog_8_method_10_code
def y_Model_ruleOf : MethodName := ⟨"ContestRowsModel", "ruleOf", "(I)I"⟩
abbrev b_Model_ruleOf : ByteArray := prog_8_method_11_code
def y_Model_readRule : MethodName := ⟨"ContestRowsModel", "readRule", "(I)I"⟩
abbrev b_Model_readRule : ByteArray := prog_8_method_12_code
def y_Model_rules : MethodName := ⟨"ContestRowsModel", "rules", "()I"⟩
abbrev b_Model_rules : ByteArray := prog_8_method_13_code
def y_Model_start : MethodName := ⟨"ContestRowsModel", "start", "(II)Z"⟩
abbrev b_Model_start : ByteArray := prog_8_method_14_code
def y_Model_submit : MethodName := ⟨"ContestRowsModel", "submit", "(IIIIZ)I"⟩
abbrev b_Model_submit : ByteArray := prog_8_method_15_code
def y_Model_correct : MethodName := ⟨"ContestRowsModel", "correct", "(IZ)Z"⟩
abbrev b_Model_correct : ByteArray := prog_8_method_16_code
def y_Model_secondsOf : MethodName := ⟨"ContestRowsModel", "secondsOf", "(I)I"⟩
abbrev b_Model_secondsOf : ByteArray := prog_8_method_17_code
def y_Model_isLate : MethodName := ⟨"ContestRowsModel", "isLate", "(I)Z"⟩
abbrev b_Model_isLate : ByteArray := prog_8_method_18_code
def y_Model_late : MethodName := ⟨"ContestRowsModel", "late", "(I)Z"⟩
abbrev b_Model_late : ByteArray := prog_8_method_19_code
def y_Model_isAhead : MethodName := ⟨"ContestRowsModel", "isAhead", "(II)Z"⟩
abbrev b_Model_isAhead : ByteArray := prog_8_method_20_code
def y_Model_isOf : MethodName := ⟨"ContestRowsModel", "isOf", "(III)Z"⟩
abbrev b_Model_isOf : ByteArray := prog_8_method_21_code
def y_Model_counting : MethodName := ⟨"ContestRowsModel", "counting", "(II)I"⟩
abbrev b_Model_counting : ByteArray := prog_8_method_22_code
def y_Model_pointsOf : MethodName := ⟨"ContestRowsModel", "pointsOf", "(II)J"⟩
abbrev b_Model_pointsOf : ByteArray := prog_8_method_23_code
def y_Model_scoreOf : MethodName := ⟨"ContestRowsModel", "scoreOf", "(I)J"⟩
abbrev b_Model_scoreOf : ByteArray := prog_8_method_24_code
def y_Model_timeOf : MethodName := ⟨"ContestRowsModel", "timeOf", "(I)J"⟩
abbrev b_Model_timeOf : ByteArray := prog_8_method_25_code
def y_Model_reckon : MethodName := ⟨"ContestRowsModel", "reckon", "()V"⟩
abbrev b_Model_reckon : ByteArray := prog_8_method_26_code
def y_Model_isBetter : MethodName := ⟨"ContestRowsModel", "isBetter", "(II)Z"⟩
abbrev b_Model_isBetter : ByteArray := prog_8_method_27_code
def y_Model_isAlike : MethodName := ⟨"ContestRowsModel", "isAlike", "(II)Z"⟩
abbrev b_Model_isAlike : ByteArray := prog_8_method_28_code
def y_Model_score : MethodName := ⟨"ContestRowsModel", "score", "(II)J"⟩
abbrev b_Model_score : ByteArray := prog_8_method_29_code
def y_Model_points : MethodName := ⟨"ContestRowsModel", "points", "(II)J"⟩
abbrev b_Model_points : ByteArray := prog_8_method_30_code
def y_Model_place : MethodName := ⟨"ContestRowsModel", "place", "(I)I"⟩
abbrev b_Model_place : ByteArray := prog_8_method_31_code
def y_Model_shared : MethodName := ⟨"ContestRowsModel", "shared", "(II)Z"⟩
abbrev b_Model_shared : ByteArray := prog_8_method_32_code
def y_Model_firstWrong : MethodName := ⟨"ContestRowsModel", "firstWrong", "(III)I"⟩
abbrev b_Model_firstWrong : ByteArray := prog_8_method_33_code
def y_Model_suspicious : MethodName := ⟨"ContestRowsModel", "suspicious", "(II)I"⟩
abbrev b_Model_suspicious : ByteArray := prog_8_method_34_code
def y_Model_tellPair : MethodName := ⟨"ContestRowsModel", "tellPair", "(IIII)I"⟩
abbrev b_Model_tellPair : ByteArray := prog_8_method_35_code
def y_Model_next : MethodName := ⟨"ContestRowsModel", "next", "()I"⟩
abbrev b_Model_next : ByteArray := prog_8_method_36_code
def y_Model_even : MethodName := ⟨"ContestRowsModel", "even", "(II)I"⟩
abbrev b_Model_even : ByteArray := prog_8_method_37_code
def y_Model_apart : MethodName := ⟨"ContestRowsModel", "apart", "()I"⟩
abbrev b_Model_apart : ByteArray := prog_8_method_38_code
end
section
/-! BASE: one contract form for every method that makes no cell, rows over a world kept in one fact, a call row -/
section BASE
def bI (b : Bool) : Int32 := match b with
  | true => 1
  | false => 0
def oI (o : Option Nat) : Int32 := match o with
  | none => -1
  | some n => nI n
def oL (o : Option Nat) : Int64 := match o with
  | none => -1
  | some n => lN n
def aE {α : Type} (enc : α → Int32) (g : Nat → α) : Nat → Int32 := fun i => enc (g i)
def aF {α : Type} (enc : α → Int64) (g : Nat → α) : Nat → Int64 := fun i => enc (g i)
theorem aE_upd {α : Type} (enc : α → Int32) (g : Nat → α) (k : Nat) (v : α) : upd (aE enc g) k (enc v) = aE enc (va_up g k v) := by
  funext j
  by_cases h : j = k <;> simp [upd, aE, va_up, h]
theorem aF_upd {α : Type} (enc : α → Int64) (g : Nat → α) (k : Nat) (v : α) : vp_updL (aF enc g) k (enc v) = aF enc (va_up g k v) := by
  funext j
  by_cases h : j = k <;> simp [vp_updL, aF, va_up, h]
theorem bI_nar (b : Bool) : vp_nar .boolean (bI b) = bI b := by cases b <;> decide +kernel
theorem bI_narrow (b : Bool) : narrow .boolean (.int (bI b)) = .int (bI b) := by cases b <;> decide +kernel
theorem bI_0 {b : Bool} : bI b = 0 ↔ b = false := by cases b <;> decide +kernel
theorem bI_inj {a b : Bool} : bI a = bI b ↔ a = b := by cases a <;> cases b <;> decide +kernel
abbrev tyL (cI cZ cJ : ClassId) : List (ClassId × FieldType) := [(cI, .int), (cZ, .boolean), (cJ, .long)]
/-- the world, kept: its cells, apart, and what has changed since H0 -/
def Wr (G : va_G) (A : Nat → Prop) (H0 : Heap) (ws : va_W) (H : Heap) (locs : List Loc) : Prop := va_P G vwCl ws H ∧ va_D A ws ∧ va_S A H0 H locs
/-- what holds in a method's body: code, class, the tables' words, the classes' numbers, new cells are free -/
abbrev Fx (p : Program) (m : MethodId) (c : Code) (cc : ByteArray) (nL : Nat) (s : State) (args : Array Value) (own : String) (G : va_G) (tys : List (ClassId × FieldType)) (A : Nat → Prop) : Prop :=
  CallFix p m c cc nL s args TBL own ∧ va_K G vwCl tys s ∧ ∀ q, s.heap.size ≤ q → A q
def CPre (G : va_G) (tys : List (ClassId × FieldType)) (av : List Value) (wc : va_W) (sz : Nat) : Array Value → State → Prop :=
  va_Pc av (fun U => U.heap.size = sz ∧ va_P G vwCl wc U.heap ∧ va_K G vwCl tys U ∧ va_D (fun _ => True) wc)
def CQ (G : va_G) (wc : va_W) (sz : Nat) (ov : Option Value) (wv : va_W) : Array Value → State → Outcome → State → Prop := fun _ st oc t =>
  oc = .returned ov ∧ va_P G vwCl wv t.heap ∧ va_D (va_A wc sz) wv ∧ va_F (va_A wc sz) st t
/-- the contract: from the world wc, with the arguments av: the answer ov, the world wv -/
def Ct (l : Launch) (G : va_G) (tys : List (ClassId × FieldType)) (y : MethodName) (bytes : ByteArray) (maxL : Nat) (ret : Option FieldType) (rm : Room) (av : List Value) (wc : va_W) (ov : Option Value) (wv : va_W) : Prop :=
  ∀ sz, Met l y (.code y bytes maxL ret :: TBL) rm (CPre G tys av wc sz) (CQ G wc sz ov wv) 0 0 (va_A wc sz)
theorem CPre_blind {G : va_G} {tys : List (ClassId × FieldType)} {av : List Value} {wc : va_W} {sz : Nat} : FrameBlind (CPre G tys av wc sz) := fun a U g mk q => by
  obtain ⟨q0, q1, qP, qK, qD⟩ := q
  exact ⟨q0, q1, qP, va_K.moved (u := U) (U := U.calling g mk a) (Vm.Alike.refl U.vm) qK, qD⟩
abbrev rmL (d : Nat) : Room := { frames := d, cells := 0, slots := 0, locals := 44 * d }
/-- a method's proof begins -/
theorem M_start {l : Launch} {G : va_G} {tys : List (ClassId × FieldType)} {y : MethodName} {bytes : ByteArray} {maxL : Nat} {ret : Option FieldType} {rm : Room} {av : List Value} {wc : va_W} {ov : Option Value} {wv : va_W}
    (hy : plainName y.cls = true) (hav : (lg_sl av).length ≤ maxL)
    (body : ∀ (p : Program) (e : Env) (s : State) (m : MethodId) (args : Array Value) (below : List Frame) (meth : Method) (c : Code) (A : Nat → Prop) (Q : State → Prop) (ls : Array Slot),
      Fx p m c bytes maxL s args y.cls G tys A → (meth.sig.returnType = ret ∧ meth.locks = false ∧ Q = MQ below (CQ G wc s.heap.size ov wv) args s 0 0 A ∧ A = va_A wc s.heap.size) → Wr G A s.heap wc s.heap [] → lv_has ls maxL (lv_args 0 av) →
      W p l e rm s m args below meth c s.heap [] 0 0 Q (F0 m 0 ls [])) : Ct l G tys y bytes maxL ret rm av wc ov wv := by
  intro sz
  refine Met.ofW (cc := bytes) (maxL := maxL) (ret := ret) hy rfl ?_
  intro p e s m args below meth c s₁ B hml hv
  obtain ⟨rfl, hsz, hP, hK, hD0⟩ := hv
  have hts := atoms_spec (ws := .code y bytes maxL ret :: TBL) B.pre
  have hown : s.vm.findClass y.cls = some m.cls := findClass_of_methodNamed B.named
  subst hsz
  rw [lg_entry_eq]
  exact body p e s m av.toArray below meth c (va_A wc s.heap.size) _ _ ⟨⟨B.exec, B.bytes, hml, hown, fun w h => hts w (List.mem_cons_of_mem _ h)⟩, hK, fun q h => Or.inr h⟩ ⟨B.returns, B.notSynchronized, rfl, rfl⟩ ⟨hP, hD0.self, va_S.rf⟩ (lv_entry av hav)
section ROWS
variable {p : Program} {l : Launch} {e : Env} {R : Room} {s : State} {m : MethodId} {args : Array Value} {below : List Frame} {meth : Method} {c : Code} {H : Heap} {locs : List Loc} {cells slots : Nat} {Q : State → Prop}
variable {cc : ByteArray} {nL pc : Nat} {ls : Array Slot} {rest : List Value} {own : String} {G : va_G} {A : Nat → Prop} {a : Nat} {tys : List (ClassId × FieldType)} {ws : va_W} {H0 : Heap}
theorem R_get {C : String} {T : u_T} {N ci index : Nat} (X : Fx p m c cc nL s args own G tys A) (hW : Wr G A H0 ws H locs) (hin : ∀ w ∈ u_ws C T N, w ∈ TBL) (hc : vwCl[ci]? = some (C, T, N)) (k : Nat) (hk : k < N) (hlink : Cond.fieldLink own index (T k).1 (T k).2.1 (T k).2.2.1 ∈ TBL) (q0 : Nat) {fs : List Value} (he : ws[q0]? = some (a, .inr (ci, fs))) {v : Value} (hv : fs[k]? = some v) (hdg : decode cc pc = .ok (.getfield index, 3))
    (kk : W p l e R s m args below meth c H locs cells slots Q (F0 m (pc + 3) ls (v :: rest))) : W p l e R s m args below meth c H locs cells slots Q (F0 m pc ls (.ref a :: rest)) :=
  va_get X.1.1 X.1.2.1 X.1.2.2.2.2 hin X.1.2.2.2.1 X.2.1 hW.1 q0 he hc k hk (X.1.2.2.2.2 _ hlink) (fun _ h => h) hv hdg kk
theorem R_put {C : String} {T : u_T} {N ci index : Nat} (X : Fx p m c cc nL s args own G tys A) (hW : Wr G A H0 ws H locs) (hin : ∀ w ∈ u_ws C T N, w ∈ TBL) (hc : vwCl[ci]? = some (C, T, N)) (ty0 : Nat → FieldType) (hty : ∀ k, k < N → parseFieldDescriptor (T k).2.2.1 = some (ty0 k)) (hnm : ∀ a, a < N → ∀ b, b < N → a ≠ b → (T a).2.1 ≠ (T b).2.1) (k : Nat) (hk : k < N) (hlink : Cond.fieldLink own index (T k).1 (T k).2.1 (T k).2.2.1 ∈ TBL) (hfin : (T k).2.2.2 = false) {ty : FieldType} (hd : parseFieldDescriptor (T k).2.2.1 = some ty) (q0 : Nat) {fs : List Value} (he : ws[q0]? = some (a, .inr (ci, fs))) {v : Value} (hn : narrow ty v = v) (hfit : fits ty v = true) (hl : k < fs.length) (hdg : decode cc pc = .ok (.putfield index, 3))
    (kk : ∀ (H1 : Heap) (locs1 : List Loc), Wr G A H0 (ws.set q0 (a, .inr (ci, fs.set k v))) H1 locs1 → W p l e R s m args below meth c H1 locs1 cells slots Q (F0 m (pc + 3) ls rest)) : W p l e R s m args below meth c H locs cells slots Q (F0 m pc ls (v :: .ref a :: rest)) :=
  va_put X.1.1 X.1.2.1 X.1.2.2.2.2 hin ty0 hty hnm X.1.2.2.2.1 X.2.1 hW.1 hW.2.1 hW.2.2 q0 he hc k hk (X.1.2.2.2.2 _ hlink) (fun _ h => h) hfin hd hn hfit hl hdg (fun H1 locs1 h1 h2 h3 => kk H1 locs1 ⟨h1, h2, h3⟩)
theorem R_iald {α : Type} {enc : α → Int32} {f : Nat → α} {n t0 : Nat} {cA : ClassId} (X : Fx p m c cc nL s args own G tys A) (hW : Wr G A H0 ws H locs) (ht : tys[t0]? = some (cA, .int)) (q0 : Nat) (ha : ws[q0]? = some (a, .inl (cA, n, .inl (aE enc f)))) {k : Nat} (hk : k < n) (hn : n < 2 ^ 31) (hdg : decode cc pc = .ok (.iaload, 1))
    (kk : W p l e R s m args below meth c H locs cells slots Q (F0 m (pc + 1) ls (.int (enc (f k)) :: rest))) : W p l e R s m args below meth c H locs cells slots Q (F0 m pc ls (.int (nI k) :: .ref a :: rest)) := by
  refine va_iald X.1.1 X.1.2.1 X.2.1 hW.1 q0 t0 ha ht (vp_in_nI hk hn) hdg ?_
  rw [nI_clamp (Nat.lt_trans hk hn)]
  exact kk
theorem R_zald {α : Type} {enc : α → Int32} {f : Nat → α} {n t0 : Nat} {cA : ClassId} (X : Fx p m c cc nL s args own G tys A) (hW : Wr G A H0 ws H locs) (ht : tys[t0]? = some (cA, .boolean)) (q0 : Nat) (ha : ws[q0]? = some (a, .inl (cA, n, .inl (aE enc f)))) {k : Nat} (hk : k < n) (hn : n < 2 ^ 31) (hdg : decode cc pc = .ok (.baload, 1))
    (kk : W p l e R s m args below meth c H locs cells slots Q (F0 m (pc + 1) ls (.int (enc (f k)) :: rest))) : W p l e R s m args below meth c H locs cells slots Q (F0 m pc ls (.int (nI k) :: .ref a :: rest)) := by
  refine va_zald X.1.1 X.1.2.1 X.2.1 hW.1 q0 t0 ha ht (vp_in_nI hk hn) hdg ?_
  rw [nI_clamp (Nat.lt_trans hk hn)]
  exact kk
theorem R_lald {α : Type} {enc : α → Int64} {f : Nat → α} {n t0 : Nat} {cA : ClassId} (X : Fx p m c cc nL s args own G tys A) (hW : Wr G A H0 ws H locs) (ht : tys[t0]? = some (cA, .long)) (q0 : Nat) (ha : ws[q0]? = some (a, .inl (cA, n, .inr (.inl (aF enc f))))) {k : Nat} (hk : k < n) (hn : n < 2 ^ 31) (hdg : decode cc pc = .ok (.laload, 1))
    (kk : W p l e R s m args below meth c H locs cells slots Q (F0 m (pc + 1) ls (.long (enc (f k)) :: rest))) : W p l e R s m args below meth c H locs cells slots Q (F0 m pc ls (.int (nI k) :: .ref a :: rest)) := by
  refine va_lald X.1.1 X.1.2.1 X.2.1 hW.1 q0 t0 ha ht (vp_in_nI hk hn) hdg ?_
  rw [nI_clamp (Nat.lt_trans hk hn)]
  exact kk
theorem R_iast {α : Type} {enc : α → Int32} {f : Nat → α} {n t0 : Nat} {cA : ClassId} (X : Fx p m c cc nL s args own G tys A) (hW : Wr G A H0 ws H locs) (ht : tys[t0]? = some (cA, .int)) (q0 : Nat) (ha : ws[q0]? = some (a, .inl (cA, n, .inl (aE enc f)))) {k : Nat} (hk : k < n) (hn : n < 2 ^ 31) {x : Int32} (v : α) (hv : x = enc v) (hdg : decode cc pc = .ok (.iastore, 1))
    (kk : ∀ (H1 : Heap) (locs1 : List Loc), Wr G A H0 (ws.set q0 (a, .inl (cA, n, .inl (aE enc (va_up f k v))))) H1 locs1 → W p l e R s m args below meth c H1 locs1 cells slots Q (F0 m (pc + 1) ls rest)) : W p l e R s m args below meth c H locs cells slots Q (F0 m pc ls (.int x :: .int (nI k) :: .ref a :: rest)) := by
  subst hv
  refine va_iast X.1.1 X.1.2.1 X.2.1 hW.1 hW.2.1 hW.2.2 q0 t0 ha ht (vp_in_nI hk hn) hdg (fun H1 locs1 h1 h2 h3 => kk H1 locs1 ?_)
  rw [nI_clamp (Nat.lt_trans hk hn), aE_upd] at h1 h2
  exact ⟨h1, h2, h3⟩
theorem R_zast {f : Nat → Bool} {n t0 : Nat} {cA : ClassId} (X : Fx p m c cc nL s args own G tys A) (hW : Wr G A H0 ws H locs) (ht : tys[t0]? = some (cA, .boolean)) (q0 : Nat) (ha : ws[q0]? = some (a, .inl (cA, n, .inl (aE bI f)))) {k : Nat} (hk : k < n) (hn : n < 2 ^ 31) {x : Int32} (v : Bool) (hv : x = bI v) (hdg : decode cc pc = .ok (.bastore, 1))
    (kk : ∀ (H1 : Heap) (locs1 : List Loc), Wr G A H0 (ws.set q0 (a, .inl (cA, n, .inl (aE bI (va_up f k v))))) H1 locs1 → W p l e R s m args below meth c H1 locs1 cells slots Q (F0 m (pc + 1) ls rest)) : W p l e R s m args below meth c H locs cells slots Q (F0 m pc ls (.int x :: .int (nI k) :: .ref a :: rest)) := by
  subst hv
  refine va_zast X.1.1 X.1.2.1 X.2.1 hW.1 hW.2.1 hW.2.2 q0 t0 ha ht (vp_in_nI hk hn) hdg (fun H1 locs1 h1 h2 h3 => kk H1 locs1 ?_)
  rw [nI_clamp (Nat.lt_trans hk hn), bI_nar, aE_upd] at h1 h2
  exact ⟨h1, h2, h3⟩
theorem R_last {α : Type} {enc : α → Int64} {f : Nat → α} {n t0 : Nat} {cA : ClassId} (X : Fx p m c cc nL s args own G tys A) (hW : Wr G A H0 ws H locs) (ht : tys[t0]? = some (cA, .long)) (q0 : Nat) (ha : ws[q0]? = some (a, .inl (cA, n, .inr (.inl (aF enc f))))) {k : Nat} (hk : k < n) (hn : n < 2 ^ 31) {x : Int64} (v : α) (hv : x = enc v) (hdg : decode cc pc = .ok (.lastore, 1))
    (kk : ∀ (H1 : Heap) (locs1 : List Loc), Wr G A H0 (ws.set q0 (a, .inl (cA, n, .inr (.inl (aF enc (va_up f k v)))))) H1 locs1 → W p l e R s m args below meth c H1 locs1 cells slots Q (F0 m (pc + 1) ls rest)) : W p l e R s m args below meth c H locs cells slots Q (F0 m pc ls (.long x :: .int (nI k) :: .ref a :: rest)) := by
  subst hv
  refine va_last X.1.1 X.1.2.1 X.2.1 hW.1 hW.2.1 hW.2.2 q0 t0 ha ht (vp_in_nI hk hn) hdg (fun H1 locs1 h1 h2 h3 => kk H1 locs1 ?_)
  rw [nI_clamp (Nat.lt_trans hk hn), aF_upd] at h1 h2
  exact ⟨h1, h2, h3⟩
/-! returns -/
variable {wc wv w : va_W} {ov : Option Value} {ret : Option FieldType} {sz : Nat}
abbrev Rx (meth : Method) (below : List Frame) (s : State) (args : Array Value) (ret : Option FieldType) (G : va_G) (wc : va_W) (ov : Option Value) (wv : va_W) (A : Nat → Prop) (Q : State → Prop) : Prop :=
  meth.sig.returnType = ret ∧ meth.locks = false ∧ Q = MQ below (CQ G wc s.heap.size ov wv) args s 0 0 A ∧ A = va_A wc s.heap.size
theorem R_q (Y : Rx meth below s args ret G wc ov wv A Q) (hW : Wr G A s.heap w H locs) (hw : w = wv) {oc : Option Value} (ho : oc = ov) : ∀ t : State, t.heap = H → s.WarmedH t.vm → CQ G wc s.heap.size ov wv args s (.returned oc) t := fun t ht hwm => by
  subst hw; subst ho
  obtain ⟨-, -, -, rfl⟩ := Y
  exact ⟨rfl, by rw [ht]; exact hW.1, hW.2.1, hW.2.2.F ht⟩
theorem R_iret (X : Fx p m c cc nL s args own G tys A) (Y : Rx meth below s args (some .int) G wc ov wv A Q) (hW : Wr G A s.heap w H locs) (hw : w = wv) {x : Int32} (ho : some (Value.int x) = ov) (hdg : decode cc pc = .ok (.ireturn, 1)) : W p l e R s m args below meth c H locs 0 0 Q (F0 m pc ls [.int x]) := by
  have hq := R_q Y hW hw ho
  obtain ⟨hr, hlk, rfl, hAe⟩ := Y
  exact W.iret X.1.1 X.1.2.1 hr hq hW.2.2.2.2 hdg hlk
theorem R_zret (X : Fx p m c cc nL s args own G tys A) (Y : Rx meth below s args (some .boolean) G wc ov wv A Q) (hW : Wr G A s.heap w H locs) (hw : w = wv) {x : Int32} (b : Bool) (hx : x = bI b) (ho : some (Value.int (bI b)) = ov) (hdg : decode cc pc = .ok (.ireturn, 1)) : W p l e R s m args below meth c H locs 0 0 Q (F0 m pc ls [.int x]) := by
  subst hx
  have hq := R_q Y hW hw ho
  obtain ⟨hr, hlk, rfl, hAe⟩ := Y
  exact W.zret X.1.1 X.1.2.1 hr (bI_narrow b) hq hW.2.2.2.2 hdg hlk
theorem R_lret (X : Fx p m c cc nL s args own G tys A) (Y : Rx meth below s args (some .long) G wc ov wv A Q) (hW : Wr G A s.heap w H locs) (hw : w = wv) {x : Int64} (ho : some (Value.long x) = ov) (hdg : decode cc pc = .ok (.lreturn, 1)) : W p l e R s m args below meth c H locs 0 0 Q (F0 m pc ls [.long x]) := by
  have hq := R_q Y hW hw ho
  obtain ⟨hr, hlk, rfl, hAe⟩ := Y
  exact W.lret X.1.1 X.1.2.1 hr hq hW.2.2.2.2 hdg hlk
theorem R_vret (X : Fx p m c cc nL s args own G tys A) (Y : Rx meth below s args none G wc ov wv A Q) (hW : Wr G A s.heap w H locs) (hw : w = wv) (ho : none = ov) (hdg : decode cc pc = .ok (.return_, 1)) : W p l e R s m args below meth c H locs 0 0 Q (F0 m pc ls []) := by
  have hq := R_q Y hW hw ho
  obtain ⟨hr, hlk, rfl, hAe⟩ := Y
  exact W.vret X.1.1 X.1.2.1 hr hq hW.2.2.2.2 hdg hlk
end ROWS
/-! a call -/
def rp_set (ws : va_W) : List Nat → va_W → va_W
  | i :: is, x :: xs => rp_set (ws.set i x) is xs
  | _, _ => ws
theorem rp_mem : ∀ (is : List Nat) (xs ws : va_W) (k : Nat) (q : Nat × va_E), is.length = xs.length → (rp_set ws is xs)[k]? = some q → q ∈ xs ∨ (k ∉ is ∧ ws[k]? = some q)
  | [], xs, ws, k, q, _, h => by
    right
    exact ⟨List.not_mem_nil, by cases xs <;> exact h⟩
  | i :: is, [], ws, k, q, hl, h => by simp at hl
  | i :: is, x :: xs, ws, k, q, hl, h => by
    have hl' : is.length = xs.length := by simpa using hl
    rcases rp_mem is xs (ws.set i x) k q hl' h with h1 | ⟨h1, h2⟩
    · exact Or.inl (List.mem_cons_of_mem _ h1)
    · by_cases hk : k = i
      · subst hk
        left
        rw [List.getElem?_set] at h2
        by_cases hlt : k < ws.length
        · simp [hlt] at h2
          rw [h2]; exact List.mem_cons_self
        · simp [hlt] at h2
      · right
        rw [List.getElem?_set_ne (fun e => hk e.symm)] at h2
        exact ⟨fun hm => by
          rcases List.mem_cons.mp hm with e | e
          · exact hk e
          · exact h1 e, h2⟩
theorem rp_fst : ∀ (is : List Nat) (xs ws : va_W), is.map (fun i => (ws[i]?).map Prod.fst) = xs.map (fun x => some x.1) → (rp_set ws is xs).map Prod.fst = ws.map Prod.fst
  | [], xs, ws, _ => by cases xs <;> rfl
  | i :: is, [], ws, h => by simp at h
  | i :: is, x :: xs, ws, h => by
    simp only [List.map_cons, List.cons.injEq] at h
    obtain ⟨h1, h2⟩ := h
    have e : (ws.set i x).map Prod.fst = ws.map Prod.fst := by
      apply List.ext_getElem?
      intro j
      rw [List.getElem?_map, List.getElem?_map, List.getElem?_set]
      by_cases hj : i = j
      · subst hj
        rw [if_pos rfl]
        by_cases hlt : i < ws.length
        · rw [if_pos hlt, h1]; rfl
        · rw [if_neg hlt]
          rw [List.getElem?_eq_none (by omega)]
      · rw [if_neg hj]
    show (rp_set (ws.set i x) is xs).map Prod.fst = _
    rw [rp_fst is xs (ws.set i x) ?_, e]
    rw [← h2]
    apply List.map_congr_left
    intro j _
    show (ws.set i x)[j]?.map Prod.fst = (ws[j]?).map Prod.fst
    rw [← List.getElem?_map, ← List.getElem?_map, e]
theorem va_D.fst {A : Nat → Prop} {ws ws' : va_W} (h : va_D A ws) (he : ws'.map Prod.fst = ws.map Prod.fst) : va_D A ws' := by
  have key : ∀ (i : Nat) (p : Nat × va_E), ws'[i]? = some p → ∃ p', ws[i]? = some p' ∧ p'.1 = p.1 := by
    intro i p hp
    have h1 := congrArg (fun l => l[i]?) he
    simp only [List.getElem?_map, hp, Option.map_some] at h1
    cases hw : ws[i]? with
    | none => rw [hw] at h1; simp at h1
    | some p' =>
      rw [hw] at h1
      exact ⟨p', rfl, (by simpa using h1.symm)⟩
  refine ⟨fun i j p q hi hj hpq => ?_, fun k q hk => ?_⟩
  · obtain ⟨p', a1, a2⟩ := key i p hi
    obtain ⟨q', b1, b2⟩ := key j q hj
    exact h.1 i j p' q' a1 b1 (by rw [a2, b2, hpq])
  · obtain ⟨q', a1, a2⟩ := key k q hk
    rw [← a2]
    exact h.2 k q' a1
/-! the callee's cells by a mask -/
def mk_pos : List Bool → Nat → List Nat
  | [], _ => []
  | true :: bs, n => n :: mk_pos bs (n + 1)
  | false :: bs, n => mk_pos bs (n + 1)
def mk_pick : va_W → List Bool → va_W
  | w :: ws, true :: bs => w :: mk_pick ws bs
  | _ :: ws, false :: bs => mk_pick ws bs
  | _, _ => []
def mk_put : va_W → List Bool → va_W → va_W
  | _ :: ws, true :: bs, x :: xs => x :: mk_put ws bs xs
  | w :: ws, false :: bs, xs => w :: mk_put ws bs xs
  | ws, _, _ => ws
theorem mk_pick_pos : ∀ (bs : List Bool) (ws pre : va_W), bs.length ≤ ws.length → (mk_pos bs pre.length).map (fun i => (pre ++ ws)[i]?) = (mk_pick ws bs).map some
  | [], ws, pre, _ => by cases ws <;> rfl
  | b :: bs, [], pre, h => by simp at h
  | true :: bs, w :: ws, pre, h => by
    have ih := mk_pick_pos bs ws (pre ++ [w]) (by simpa using h)
    simp only [List.length_append, List.length_cons, List.length_nil, List.append_assoc, List.cons_append, List.nil_append, Nat.zero_add] at ih
    simp only [mk_pos, mk_pick, List.map_cons, ih]
    simp
  | false :: bs, w :: ws, pre, h => by
    have ih := mk_pick_pos bs ws (pre ++ [w]) (by simpa using h)
    simp only [List.length_append, List.length_cons, List.length_nil, List.append_assoc, List.cons_append, List.nil_append, Nat.zero_add] at ih
    simp only [mk_pos, mk_pick, ih]
theorem mk_put_set : ∀ (bs : List Bool) (ws pre xs : va_W), bs.length ≤ ws.length → rp_set (pre ++ ws) (mk_pos bs pre.length) xs = pre ++ mk_put ws bs xs
  | [], ws, pre, xs, _ => by cases ws <;> cases xs <;> rfl
  | b :: bs, [], pre, xs, h => by simp at h
  | true :: bs, w :: ws, pre, [], h => by simp [mk_pos, rp_set, mk_put]
  | true :: bs, w :: ws, pre, x :: xs, h => by
    have ih := mk_put_set bs ws (pre ++ [x]) xs (by simpa using h)
    simp only [List.length_append, List.length_cons, List.length_nil, List.append_assoc, List.cons_append, List.nil_append, Nat.zero_add] at ih
    simp only [mk_pos, rp_set, mk_put]
    rw [show (pre ++ w :: ws).set pre.length x = pre ++ x :: ws by simp]
    exact ih
  | false :: bs, w :: ws, pre, xs, h => by
    have ih := mk_put_set bs ws (pre ++ [w]) xs (by simpa using h)
    simp only [List.length_append, List.length_cons, List.length_nil, List.append_assoc, List.cons_append, List.nil_append, Nat.zero_add] at ih
    simp only [mk_pos]
    rw [ih]
    cases xs <;> rfl
section CALLS
variable {p : Program} {l : Launch} {e : Env} {R : Room} {s : State} {m : MethodId} {args : Array Value} {below : List Frame} {meth : Method} {c : Code} {H : Heap} {locs : List Loc} {cells slots : Nat} {Q : State → Prop}
variable {cc : ByteArray} {nL pc : Nat} {ls : Array Slot} {rest st0 st1 : List Value} {own : String} {G : va_G} {A : Nat → Prop} {a : Nat} {tys : List (ClassId × FieldType)} {ws wc wv : va_W} {H0 : Heap} {ov : Option Value} {ar : Array Value}
theorem R_run (hr : va_Run p l e R s m args below meth c H locs cells slots 0 0 (F0 m pc ls st0) rest (CQ G wc H.size ov wv ar) (va_A wc H.size)) (hW : Wr G A H0 ws H locs) (hA : ∀ q, H0.size ≤ q → A q) (isC : List Nat) (hC : isC.map (fun i => ws[i]?) = wc.map some) (hv : wv.map Prod.fst = wc.map Prod.fst) (hst : ov.toList ++ rest = st1)
    (kk : ∀ (H1 : Heap) (locs1 : List Loc), Wr G A H0 (rp_set ws isC wv) H1 locs1 → W p l e R s m args below meth c H1 locs1 cells slots Q (F0 m (pc + 3) ls st1)) : W p l e R s m args below meth c H locs cells slots Q (F0 m pc ls st0) := by
  subst hst
  obtain ⟨hP, hD, hS⟩ := hW
  have hF := va_free (wc := wc) hD hS hA isC hC
  have hlen : isC.length = wv.length := by
    have h1 := congrArg List.length hC
    have h2 := congrArg List.length hv
    simp at h1 h2
    omega
  have hCat : ∀ (j i : Nat), isC[j]? = some i → ∃ q, wc[j]? = some q ∧ ws[i]? = some q := by
    intro j i hj
    have h1 := congrArg (fun l => l[j]?) hC
    simp only [List.getElem?_map, hj, Option.map_some] at h1
    cases hw : wc[j]? with
    | none => rw [hw] at h1; simp at h1
    | some q => rw [hw] at h1; exact ⟨q, rfl, by simpa using h1⟩
  intro T hT Xs
  obtain ⟨v, st₀, t, T', L, h0, X', hL, e1, e2, ⟨hv1, hP1, hD1, hz, hk⟩, st⟩ := hr T hT Xs
  cases hv1
  rw [h0] at hz hk
  have hS1 : va_S A H0 T'.heap (locs ++ L) := ⟨Nat.le_trans hS.1 (by rw [e1]; exact hz), fun q h1 h2 => by rw [e1, hk q (Nat.lt_of_lt_of_le h1 hS.1) (fun z => h2 (hF q z))]; exact hS.2.1 q h1 h2, fun q hq => by
      rcases List.mem_append.mp hq with h | h
      · exact hS.2.2 q h
      · exact hF _ (hL q h)⟩
  have hP2 : va_P G vwCl (rp_set ws isC wv) T'.heap := by
    intro k q hq
    rcases rp_mem isC wv ws k q hlen hq with h1 | ⟨h1, h2⟩
    · obtain ⟨j, hj⟩ := List.getElem?_of_mem h1
      rw [e1]
      exact hP1 j q hj
    · refine (hP k q h2).kept ?_
      rw [e1]
      refine hk q.1 (hP k q h2).lt ?_
      rintro (⟨j, e', hj⟩ | hge)
      · have hjl : j < isC.length := by
          have := (List.getElem?_eq_some_iff.mp hj).1
          have h1 := congrArg List.length hC
          simp at h1
          omega
        obtain ⟨q', g1, g2⟩ := hCat j isC[j] (List.getElem?_eq_getElem hjl)
        rw [hj] at g1
        have e3 : q'.1 = q.1 := by rw [← Option.some.inj g1]
        have := hD.1 _ _ _ _ g2 h2 e3
        exact h1 (this ▸ List.getElem_mem hjl)
      · exact absurd (hP k q h2).lt (Nat.not_lt.mpr hge)
  have hD2 : va_D A (rp_set ws isC wv) := by
    refine hD.fst (rp_fst isC wv ws ?_)
    have h1 : isC.map (fun i => (ws[i]?).map Prod.fst) = (isC.map (fun i => ws[i]?)).map (fun o => o.map Prod.fst) := by rw [List.map_map]; rfl
    rw [h1, hC, List.map_map]
    have h2 : wv.map (fun x => some x.1) = (wv.map Prod.fst).map some := by rw [List.map_map]; rfl
    rw [h2, hv, List.map_map]
    rfl
  obtain ⟨t2, a1, b1⟩ := kk T'.heap (locs ++ L) ⟨hP2, hD2, hS1⟩ T' rfl X'
  exact ⟨t2, st t2 a1, b1⟩
/-- what a caller knows of its callee -/
def Cw (own : String) (index : Nat) (y : MethodName) (bytes : ByteArray) (maxL : Nat) (ret : Option FieldType) (n : Nat) : Prop :=
  Cond.code y bytes maxL ret ∈ TBL ∧ Cond.initialized y.cls ∈ TBL ∧ Cond.methodLink own index y ∈ TBL ∧ (y.cls ≠ "java/lang/invoke/MethodHandle" ∧ y.cls ≠ "java/lang/invoke/VarHandle" ∧ (parseMethodDescriptor y.desc).map (fun d => d.parameters.length) = some n)
theorem Cw.toB {index maxL n : Nat} {y : MethodName} {bytes : ByteArray} {ret : Option FieldType} {rm : Room} (h : Cw own index y bytes maxL ret n) (hts : ∀ w ∈ TBL, w.before args s = true) (hrm : rm.cells = 0 ∧ rm.slots = 0) (hR : rm.frames + 1 ≤ R.frames ∧ 8 + (maxL + 11) + rm.locals ≤ R.locals) : CallB R s args own index y bytes maxL ret (.code y bytes maxL ret :: TBL) rm 0 0 n := by
  obtain ⟨h1, h2, h3, h4⟩ := h
  exact callB_of n hts (fun w hw => by
    rcases List.mem_cons.mp hw with e | e
    · rw [e]; exact ⟨h1, TBL_good _ h1⟩
    · exact ⟨e, TBL_good _ e⟩) rfl hrm.1 hrm.2 (hts _ h2) (hts _ h3) h4 hR
theorem R_pre {av : List Value} (X : Fx p m c cc nL s args own G tys A) (hW : Wr G A H0 ws H locs) (isC : List Nat) (hn : va_nd isC = true) (hC : isC.map (fun i => ws[i]?) = wc.map some) : ∀ U : State, U.heap = H → s.WarmedH U.vm → CPre G tys av wc H.size av.toArray U := by
  intro U hU hw
  have hD := hW.2.1.sub (ws' := wc) isC hn hC
  have hP : va_P G vwCl wc H := by
    intro j q hj
    have h1 := congrArg (fun l => l[j]?) hC
    simp only [List.getElem?_map, hj, Option.map_some] at h1
    cases hi : isC[j]? with
    | none => rw [hi] at h1; simp at h1
    | some i =>
      rw [hi] at h1
      exact hW.1 i q (by simpa using h1)
  exact ⟨rfl, by rw [hU], by rw [hU]; exact hP, va_K.moved hw.alike X.2.1, hD.weaken (fun _ _ _ _ => trivial)⟩
/-- invokevirtual -/
theorem R_callV0 {C : String} {T : u_T} {N ci q0 b index maxL n : Nat} {y : MethodName} {bytes : ByteArray} {ret : Option FieldType} {rm : Room} {As fs : List Value} (hM : Ct l G tys y bytes maxL ret rm (.ref b :: As) wc ov wv) (X : Fx p m c cc nL s args own G tys A) (hs : H0 = s.heap) (hW : Wr G A H0 ws H locs) (hc : Cw own index y bytes maxL ret n) (hin : Cond.instanceMethod y ∈ TBL) (hse : Cond.selects C y y ∈ TBL) (hcl : vwCl[ci]? = some (C, T, N)) (he : ws[q0]? = some (b, .inr (ci, fs))) (hrm : rm.cells = 0 ∧ rm.slots = 0) (hR : rm.frames + 1 ≤ R.frames ∧ 8 + (maxL + 11) + rm.locals ≤ R.locals) (hcs : cells ≤ R.cells ∧ slots ≤ R.slots) (isC : List Nat) (hn : va_nd isC = true) (hC : isC.map (fun i => ws[i]?) = wc.map some) (hv : wv.map Prod.fst = wc.map Prod.fst) (hl : ls.size = nL) (hsk : st0 = As.reverse ++ .ref b :: rest) (hlen : As.length = n) (hw8 : (rest.map fun v => v.category).sum ≤ 8) (hdg : decode cc pc = .ok (.invokevirtual index, 3)) (hst : ov.toList ++ rest = st1)
    (kk : ∀ (H1 : Heap) (locs1 : List Loc), Wr G A H0 (rp_set ws isC wv) H1 locs1 → W p l e R s m args below meth c H1 locs1 cells slots Q (F0 m (pc + 3) ls st1)) : W p l e R s m args below meth c H locs cells slots Q (F0 m pc ls st0) := by
  have hts := X.1.2.2.2.2
  refine R_run (va_runV X.1 (hM H.size) ⟨hc.toB hts hrm hR, hts _ hin, hts _ hse⟩ ⟨CPre_blind, va_recv X.2.1 hW.1 hcl he, R_pre X hW isC hn hC⟩ rfl hlen hl hsk (lv_room hw8) hdg ⟨hcs.1, hcs.2⟩) hW (by rw [hs]; exact X.2.2) isC hC hv hst kk
/-- invokestatic -/
theorem R_callS0 {index maxL n : Nat} {y : MethodName} {bytes : ByteArray} {ret : Option FieldType} {rm : Room} {As : List Value} (hM : Ct l G tys y bytes maxL ret rm As wc ov wv) (X : Fx p m c cc nL s args own G tys A) (hs : H0 = s.heap) (hW : Wr G A H0 ws H locs) (hc : Cw own index y bytes maxL ret n) (hin : Cond.static y ∈ TBL) (hrm : rm.cells = 0 ∧ rm.slots = 0) (hR : rm.frames + 1 ≤ R.frames ∧ 8 + (maxL + 11) + rm.locals ≤ R.locals) (hcs : cells ≤ R.cells ∧ slots ≤ R.slots) (isC : List Nat) (hn : va_nd isC = true) (hC : isC.map (fun i => ws[i]?) = wc.map some) (hv : wv.map Prod.fst = wc.map Prod.fst) (hl : ls.size = nL) (hsk : st0 = As.reverse ++ rest) (hlen : As.length = n) (hw8 : (rest.map fun v => v.category).sum ≤ 8) (hdg : decode cc pc = .ok (.invokestatic index, 3)) (hst : ov.toList ++ rest = st1)
    (kk : ∀ (H1 : Heap) (locs1 : List Loc), Wr G A H0 (rp_set ws isC wv) H1 locs1 → W p l e R s m args below meth c H1 locs1 cells slots Q (F0 m (pc + 3) ls st1)) : W p l e R s m args below meth c H locs cells slots Q (F0 m pc ls st0) := by
  have hts := X.1.2.2.2.2
  refine R_run (va_runS X.1 (hM H.size) ⟨hc.toB hts hrm hR, hts _ hin⟩ ⟨CPre_blind, R_pre X hW isC hn hC⟩ rfl hlen hl hsk (lv_room hw8) hdg ⟨hcs.1, hcs.2⟩) hW (by rw [hs]; exact X.2.2) isC hC hv hst kk
theorem R_callV {C : String} {T : u_T} {N ci q0 b index maxL n : Nat} {y : MethodName} {bytes : ByteArray} {ret : Option FieldType} {rm : Room} {As fs : List Value} (hM : Ct l G tys y bytes maxL ret rm (.ref b :: As) wc ov wv) (X : Fx p m c cc nL s args own G tys A) (hs : H0 = s.heap) (hW : Wr G A H0 ws H locs) (hc : Cw own index y bytes maxL ret n) (hin : Cond.instanceMethod y ∈ TBL) (hse : Cond.selects C y y ∈ TBL) (hcl : vwCl[ci]? = some (C, T, N)) (he : ws[q0]? = some (b, .inr (ci, fs))) (hrm : rm.cells = 0 ∧ rm.slots = 0) (hR : rm.frames + 1 ≤ R.frames ∧ 8 + (maxL + 11) + rm.locals ≤ R.locals) (hcs : cells ≤ R.cells ∧ slots ≤ R.slots) (bs : List Bool) (hn : va_nd (mk_pos bs 0) = true) (hbs : bs.length ≤ ws.length) (hC : mk_pick ws bs = wc) (hv : wv.map Prod.fst = wc.map Prod.fst) (hl : ls.size = nL) (hsk : st0 = As.reverse ++ .ref b :: rest) (hlen : As.length = n) (hw8 : (rest.map fun v => v.category).sum ≤ 8) (hdg : decode cc pc = .ok (.invokevirtual index, 3)) (hst : ov.toList ++ rest = st1)
    (kk : ∀ (H1 : Heap) (locs1 : List Loc), Wr G A H0 (mk_put ws bs wv) H1 locs1 → W p l e R s m args below meth c H1 locs1 cells slots Q (F0 m (pc + 3) ls st1)) : W p l e R s m args below meth c H locs cells slots Q (F0 m pc ls st0) := by
  have h1 := mk_pick_pos bs ws [] hbs
  have h2 := mk_put_set bs ws [] wv hbs
  simp only [List.length_nil, List.nil_append] at h1 h2
  rw [hC] at h1
  refine R_callV0 hM X hs hW hc hin hse hcl he hrm hR hcs (mk_pos bs 0) hn h1 hv hl hsk hlen hw8 hdg hst (fun H1 locs1 hW1 => kk H1 locs1 ?_)
  rw [h2] at hW1
  exact hW1
theorem R_callS {index maxL n : Nat} {y : MethodName} {bytes : ByteArray} {ret : Option FieldType} {rm : Room} {As : List Value} (hM : Ct l G tys y bytes maxL ret rm As wc ov wv) (X : Fx p m c cc nL s args own G tys A) (hs : H0 = s.heap) (hW : Wr G A H0 ws H locs) (hc : Cw own index y bytes maxL ret n) (hin : Cond.static y ∈ TBL) (hrm : rm.cells = 0 ∧ rm.slots = 0) (hR : rm.frames + 1 ≤ R.frames ∧ 8 + (maxL + 11) + rm.locals ≤ R.locals) (hcs : cells ≤ R.cells ∧ slots ≤ R.slots) (bs : List Bool) (hn : va_nd (mk_pos bs 0) = true) (hbs : bs.length ≤ ws.length) (hC : mk_pick ws bs = wc) (hv : wv.map Prod.fst = wc.map Prod.fst) (hl : ls.size = nL) (hsk : st0 = As.reverse ++ rest) (hlen : As.length = n) (hw8 : (rest.map fun v => v.category).sum ≤ 8) (hdg : decode cc pc = .ok (.invokestatic index, 3)) (hst : ov.toList ++ rest = st1)
    (kk : ∀ (H1 : Heap) (locs1 : List Loc), Wr G A H0 (mk_put ws bs wv) H1 locs1 → W p l e R s m args below meth c H1 locs1 cells slots Q (F0 m (pc + 3) ls st1)) : W p l e R s m args below meth c H locs cells slots Q (F0 m pc ls st0) := by
  have h1 := mk_pick_pos bs ws [] hbs
  have h2 := mk_put_set bs ws [] wv hbs
  simp only [List.length_nil, List.nil_append] at h1 h2
  rw [hC] at h1
  refine R_callS0 hM X hs hW hc hin hrm hR hcs (mk_pos bs 0) hn h1 hv hl hsk hlen hw8 hdg hst (fun H1 locs1 hW1 => kk H1 locs1 ?_)
  rw [h2] at hW1
  exact hW1
end CALLS
end BASE
end
section
section NROWS
variable {p : Program} {l : Launch} {e : Env} {R : Room} {s : State} {m : MethodId} {args : Array Value} {below : List Frame} {meth : Method} {c : Code} {H : Heap} {locs : List Loc} {cells slots : Nat} {Q : State → Prop}
variable {cc : ByteArray} {pc : Nat} {ls : Array Slot} {rest : List Value}
theorem i_le {x y : Int32} : x ≤ y ↔ x.toInt ≤ y.toInt := Int32.le_iff_toInt_le
theorem i_lt {x y : Int32} : x < y ↔ x.toInt < y.toInt := Int32.lt_iff_toInt_lt
theorem i_eq {x y : Int32} : x = y ↔ x.toInt = y.toInt := Int32.toInt_inj.symm
theorem i_T {n : Nat} (h : n < 2 ^ 31) : (nI n).toInt = (n : Int) := nI_toInt h
theorem i_T0 : (0 : Int32).toInt = 0 := by decide +kernel
theorem i_Tm1 : (-1 : Int32).toInt = -1 := by decide +kernel

theorem N_icmp_lt_NN (hx : p.tables.exec = Jvm.exec) (hb : c.code = cc) {a : Nat} (qa : a < 2 ^ 31) {b : Nat} (qb : b < 2 ^ 31) {off : Int} {tgt : Nat} (hdg : decode cc pc = .ok (.if_icmp .lt off, 3)) (ht : (pc : Int) + off = (tgt : Int)) (kt : a < b → W p l e R s m args below meth c H locs cells slots Q (F0 m tgt ls rest)) (kf : b ≤ a → W p l e R s m args below meth c H locs cells slots Q (F0 m (pc + 3) ls rest)) : W p l e R s m args below meth c H locs cells slots Q (F0 m pc ls (.int (nI b) :: .int (nI a) :: rest)) :=
  lv_icmp_lt hx hb hdg ht (fun q0 => kt (by have q := i_lt.mp q0; rw [i_T qa, i_T qb] at q; omega)) (fun q0 => kf (by have q := mt i_lt.mpr q0; rw [i_T qa, i_T qb] at q; omega))
theorem N_icmp_lt_RN (hx : p.tables.exec = Jvm.exec) (hb : c.code = cc) {x : Int32} {b : Nat} (qb : b < 2 ^ 31) {off : Int} {tgt : Nat} (hdg : decode cc pc = .ok (.if_icmp .lt off, 3)) (ht : (pc : Int) + off = (tgt : Int)) (kt : x.toInt < (b : Int) → W p l e R s m args below meth c H locs cells slots Q (F0 m tgt ls rest)) (kf : (b : Int) ≤ x.toInt → W p l e R s m args below meth c H locs cells slots Q (F0 m (pc + 3) ls rest)) : W p l e R s m args below meth c H locs cells slots Q (F0 m pc ls (.int (nI b) :: .int x :: rest)) :=
  lv_icmp_lt hx hb hdg ht (fun q0 => kt (by have q := i_lt.mp q0; rw [i_T qb] at q; omega)) (fun q0 => kf (by have q := mt i_lt.mpr q0; rw [i_T qb] at q; omega))
theorem N_icmp_lt_NR (hx : p.tables.exec = Jvm.exec) (hb : c.code = cc) {a : Nat} (qa : a < 2 ^ 31) {y : Int32} {off : Int} {tgt : Nat} (hdg : decode cc pc = .ok (.if_icmp .lt off, 3)) (ht : (pc : Int) + off = (tgt : Int)) (kt : (a : Int) < y.toInt → W p l e R s m args below meth c H locs cells slots Q (F0 m tgt ls rest)) (kf : y.toInt ≤ (a : Int) → W p l e R s m args below meth c H locs cells slots Q (F0 m (pc + 3) ls rest)) : W p l e R s m args below meth c H locs cells slots Q (F0 m pc ls (.int y :: .int (nI a) :: rest)) :=
  lv_icmp_lt hx hb hdg ht (fun q0 => kt (by have q := i_lt.mp q0; rw [i_T qa] at q; omega)) (fun q0 => kf (by have q := mt i_lt.mpr q0; rw [i_T qa] at q; omega))
theorem N_icmp_lt_RR (hx : p.tables.exec = Jvm.exec) (hb : c.code = cc) {x : Int32} {y : Int32} {off : Int} {tgt : Nat} (hdg : decode cc pc = .ok (.if_icmp .lt off, 3)) (ht : (pc : Int) + off = (tgt : Int)) (kt : x.toInt < y.toInt → W p l e R s m args below meth c H locs cells slots Q (F0 m tgt ls rest)) (kf : y.toInt ≤ x.toInt → W p l e R s m args below meth c H locs cells slots Q (F0 m (pc + 3) ls rest)) : W p l e R s m args below meth c H locs cells slots Q (F0 m pc ls (.int y :: .int x :: rest)) :=
  lv_icmp_lt hx hb hdg ht (fun q0 => kt (by have q := i_lt.mp q0; skip; omega)) (fun q0 => kf (by have q := mt i_lt.mpr q0; skip; omega))
theorem N_if_lt_N (hx : p.tables.exec = Jvm.exec) (hb : c.code = cc) {a : Nat} (qa : a < 2 ^ 31) {off : Int} {tgt : Nat} (hdg : decode cc pc = .ok (.ifCond .lt off, 3)) (ht : (pc : Int) + off = (tgt : Int)) (kt : a < 0 → W p l e R s m args below meth c H locs cells slots Q (F0 m tgt ls rest)) (kf : 0 ≤ a → W p l e R s m args below meth c H locs cells slots Q (F0 m (pc + 3) ls rest)) : W p l e R s m args below meth c H locs cells slots Q (F0 m pc ls (.int (nI a) :: rest)) :=
  lv_if_lt hx hb hdg ht (fun q0 => kt (by have q := i_lt.mp q0; rw [i_T qa, i_T0] at q; omega)) (fun q0 => kf (by have q := mt i_lt.mpr q0; rw [i_T qa, i_T0] at q; omega))
theorem N_if_lt_R (hx : p.tables.exec = Jvm.exec) (hb : c.code = cc) {x : Int32} {off : Int} {tgt : Nat} (hdg : decode cc pc = .ok (.ifCond .lt off, 3)) (ht : (pc : Int) + off = (tgt : Int)) (kt : x.toInt < 0 → W p l e R s m args below meth c H locs cells slots Q (F0 m tgt ls rest)) (kf : 0 ≤ x.toInt → W p l e R s m args below meth c H locs cells slots Q (F0 m (pc + 3) ls rest)) : W p l e R s m args below meth c H locs cells slots Q (F0 m pc ls (.int x :: rest)) :=
  lv_if_lt hx hb hdg ht (fun q0 => kt (by have q := i_lt.mp q0; rw [i_T0] at q; omega)) (fun q0 => kf (by have q := mt i_lt.mpr q0; rw [i_T0] at q; omega))
theorem N_icmp_ge_NN (hx : p.tables.exec = Jvm.exec) (hb : c.code = cc) {a : Nat} (qa : a < 2 ^ 31) {b : Nat} (qb : b < 2 ^ 31) {off : Int} {tgt : Nat} (hdg : decode cc pc = .ok (.if_icmp .ge off, 3)) (ht : (pc : Int) + off = (tgt : Int)) (kt : b ≤ a → W p l e R s m args below meth c H locs cells slots Q (F0 m tgt ls rest)) (kf : a < b → W p l e R s m args below meth c H locs cells slots Q (F0 m (pc + 3) ls rest)) : W p l e R s m args below meth c H locs cells slots Q (F0 m pc ls (.int (nI b) :: .int (nI a) :: rest)) :=
  lv_icmp_ge hx hb hdg ht (fun q0 => kt (by have q := i_le.mp q0; rw [i_T qa, i_T qb] at q; omega)) (fun q0 => kf (by have q := mt i_le.mpr q0; rw [i_T qa, i_T qb] at q; omega))
theorem N_icmp_ge_RN (hx : p.tables.exec = Jvm.exec) (hb : c.code = cc) {x : Int32} {b : Nat} (qb : b < 2 ^ 31) {off : Int} {tgt : Nat} (hdg : decode cc pc = .ok (.if_icmp .ge off, 3)) (ht : (pc : Int) + off = (tgt : Int)) (kt : (b : Int) ≤ x.toInt → W p l e R s m args below meth c H locs cells slots Q (F0 m tgt ls rest)) (kf : x.toInt < (b : Int) → W p l e R s m args below meth c H locs cells slots Q (F0 m (pc + 3) ls rest)) : W p l e R s m args below meth c H locs cells slots Q (F0 m pc ls (.int (nI b) :: .int x :: rest)) :=
  lv_icmp_ge hx hb hdg ht (fun q0 => kt (by have q := i_le.mp q0; rw [i_T qb] at q; omega)) (fun q0 => kf (by have q := mt i_le.mpr q0; rw [i_T qb] at q; omega))
theorem N_icmp_ge_NR (hx : p.tables.exec = Jvm.exec) (hb : c.code = cc) {a : Nat} (qa : a < 2 ^ 31) {y : Int32} {off : Int} {tgt : Nat} (hdg : decode cc pc = .ok (.if_icmp .ge off, 3)) (ht : (pc : Int) + off = (tgt : Int)) (kt : y.toInt ≤ (a : Int) → W p l e R s m args below meth c H locs cells slots Q (F0 m tgt ls rest)) (kf : (a : Int) < y.toInt → W p l e R s m args below meth c H locs cells slots Q (F0 m (pc + 3) ls rest)) : W p l e R s m args below meth c H locs cells slots Q (F0 m pc ls (.int y :: .int (nI a) :: rest)) :=
  lv_icmp_ge hx hb hdg ht (fun q0 => kt (by have q := i_le.mp q0; rw [i_T qa] at q; omega)) (fun q0 => kf (by have q := mt i_le.mpr q0; rw [i_T qa] at q; omega))
theorem N_icmp_ge_RR (hx : p.tables.exec = Jvm.exec) (hb : c.code = cc) {x : Int32} {y : Int32} {off : Int} {tgt : Nat} (hdg : decode cc pc = .ok (.if_icmp .ge off, 3)) (ht : (pc : Int) + off = (tgt : Int)) (kt : y.toInt ≤ x.toInt → W p l e R s m args below meth c H locs cells slots Q (F0 m tgt ls rest)) (kf : x.toInt < y.toInt → W p l e R s m args below meth c H locs cells slots Q (F0 m (pc + 3) ls rest)) : W p l e R s m args below meth c H locs cells slots Q (F0 m pc ls (.int y :: .int x :: rest)) :=
  lv_icmp_ge hx hb hdg ht (fun q0 => kt (by have q := i_le.mp q0; skip; omega)) (fun q0 => kf (by have q := mt i_le.mpr q0; skip; omega))
theorem N_if_ge_N (hx : p.tables.exec = Jvm.exec) (hb : c.code = cc) {a : Nat} (qa : a < 2 ^ 31) {off : Int} {tgt : Nat} (hdg : decode cc pc = .ok (.ifCond .ge off, 3)) (ht : (pc : Int) + off = (tgt : Int)) (kt : 0 ≤ a → W p l e R s m args below meth c H locs cells slots Q (F0 m tgt ls rest)) (kf : a < 0 → W p l e R s m args below meth c H locs cells slots Q (F0 m (pc + 3) ls rest)) : W p l e R s m args below meth c H locs cells slots Q (F0 m pc ls (.int (nI a) :: rest)) :=
  lv_if_ge hx hb hdg ht (fun q0 => kt (by have q := i_le.mp q0; rw [i_T qa, i_T0] at q; omega)) (fun q0 => kf (by have q := mt i_le.mpr q0; rw [i_T qa, i_T0] at q; omega))
theorem N_if_ge_R (hx : p.tables.exec = Jvm.exec) (hb : c.code = cc) {x : Int32} {off : Int} {tgt : Nat} (hdg : decode cc pc = .ok (.ifCond .ge off, 3)) (ht : (pc : Int) + off = (tgt : Int)) (kt : 0 ≤ x.toInt → W p l e R s m args below meth c H locs cells slots Q (F0 m tgt ls rest)) (kf : x.toInt < 0 → W p l e R s m args below meth c H locs cells slots Q (F0 m (pc + 3) ls rest)) : W p l e R s m args below meth c H locs cells slots Q (F0 m pc ls (.int x :: rest)) :=
  lv_if_ge hx hb hdg ht (fun q0 => kt (by have q := i_le.mp q0; rw [i_T0] at q; omega)) (fun q0 => kf (by have q := mt i_le.mpr q0; rw [i_T0] at q; omega))
theorem N_icmp_gt_NN (hx : p.tables.exec = Jvm.exec) (hb : c.code = cc) {a : Nat} (qa : a < 2 ^ 31) {b : Nat} (qb : b < 2 ^ 31) {off : Int} {tgt : Nat} (hdg : decode cc pc = .ok (.if_icmp .gt off, 3)) (ht : (pc : Int) + off = (tgt : Int)) (kt : b < a → W p l e R s m args below meth c H locs cells slots Q (F0 m tgt ls rest)) (kf : a ≤ b → W p l e R s m args below meth c H locs cells slots Q (F0 m (pc + 3) ls rest)) : W p l e R s m args below meth c H locs cells slots Q (F0 m pc ls (.int (nI b) :: .int (nI a) :: rest)) :=
  lv_icmp_gt hx hb hdg ht (fun q0 => kt (by have q := i_lt.mp q0; rw [i_T qa, i_T qb] at q; omega)) (fun q0 => kf (by have q := mt i_lt.mpr q0; rw [i_T qa, i_T qb] at q; omega))
theorem N_icmp_gt_RN (hx : p.tables.exec = Jvm.exec) (hb : c.code = cc) {x : Int32} {b : Nat} (qb : b < 2 ^ 31) {off : Int} {tgt : Nat} (hdg : decode cc pc = .ok (.if_icmp .gt off, 3)) (ht : (pc : Int) + off = (tgt : Int)) (kt : (b : Int) < x.toInt → W p l e R s m args below meth c H locs cells slots Q (F0 m tgt ls rest)) (kf : x.toInt ≤ (b : Int) → W p l e R s m args below meth c H locs cells slots Q (F0 m (pc + 3) ls rest)) : W p l e R s m args below meth c H locs cells slots Q (F0 m pc ls (.int (nI b) :: .int x :: rest)) :=
  lv_icmp_gt hx hb hdg ht (fun q0 => kt (by have q := i_lt.mp q0; rw [i_T qb] at q; omega)) (fun q0 => kf (by have q := mt i_lt.mpr q0; rw [i_T qb] at q; omega))
theorem N_icmp_gt_NR (hx : p.tables.exec = Jvm.exec) (hb : c.code = cc) {a : Nat} (qa : a < 2 ^ 31) {y : Int32} {off : Int} {tgt : Nat} (hdg : decode cc pc = .ok (.if_icmp .gt off, 3)) (ht : (pc : Int) + off = (tgt : Int)) (kt : y.toInt < (a : Int) → W p l e R s m args below meth c H locs cells slots Q (F0 m tgt ls rest)) (kf : (a : Int) ≤ y.toInt → W p l e R s m args below meth c H locs cells slots Q (F0 m (pc + 3) ls rest)) : W p l e R s m args below meth c H locs cells slots Q (F0 m pc ls (.int y :: .int (nI a) :: rest)) :=
  lv_icmp_gt hx hb hdg ht (fun q0 => kt (by have q := i_lt.mp q0; rw [i_T qa] at q; omega)) (fun q0 => kf (by have q := mt i_lt.mpr q0; rw [i_T qa] at q; omega))
theorem N_icmp_gt_RR (hx : p.tables.exec = Jvm.exec) (hb : c.code = cc) {x : Int32} {y : Int32} {off : Int} {tgt : Nat} (hdg : decode cc pc = .ok (.if_icmp .gt off, 3)) (ht : (pc : Int) + off = (tgt : Int)) (kt : y.toInt < x.toInt → W p l e R s m args below meth c H locs cells slots Q (F0 m tgt ls rest)) (kf : x.toInt ≤ y.toInt → W p l e R s m args below meth c H locs cells slots Q (F0 m (pc + 3) ls rest)) : W p l e R s m args below meth c H locs cells slots Q (F0 m pc ls (.int y :: .int x :: rest)) :=
  lv_icmp_gt hx hb hdg ht (fun q0 => kt (by have q := i_lt.mp q0; skip; omega)) (fun q0 => kf (by have q := mt i_lt.mpr q0; skip; omega))
theorem N_if_gt_N (hx : p.tables.exec = Jvm.exec) (hb : c.code = cc) {a : Nat} (qa : a < 2 ^ 31) {off : Int} {tgt : Nat} (hdg : decode cc pc = .ok (.ifCond .gt off, 3)) (ht : (pc : Int) + off = (tgt : Int)) (kt : 0 < a → W p l e R s m args below meth c H locs cells slots Q (F0 m tgt ls rest)) (kf : a ≤ 0 → W p l e R s m args below meth c H locs cells slots Q (F0 m (pc + 3) ls rest)) : W p l e R s m args below meth c H locs cells slots Q (F0 m pc ls (.int (nI a) :: rest)) :=
  lv_if_gt hx hb hdg ht (fun q0 => kt (by have q := i_lt.mp q0; rw [i_T qa, i_T0] at q; omega)) (fun q0 => kf (by have q := mt i_lt.mpr q0; rw [i_T qa, i_T0] at q; omega))
theorem N_if_gt_R (hx : p.tables.exec = Jvm.exec) (hb : c.code = cc) {x : Int32} {off : Int} {tgt : Nat} (hdg : decode cc pc = .ok (.ifCond .gt off, 3)) (ht : (pc : Int) + off = (tgt : Int)) (kt : 0 < x.toInt → W p l e R s m args below meth c H locs cells slots Q (F0 m tgt ls rest)) (kf : x.toInt ≤ 0 → W p l e R s m args below meth c H locs cells slots Q (F0 m (pc + 3) ls rest)) : W p l e R s m args below meth c H locs cells slots Q (F0 m pc ls (.int x :: rest)) :=
  lv_if_gt hx hb hdg ht (fun q0 => kt (by have q := i_lt.mp q0; rw [i_T0] at q; omega)) (fun q0 => kf (by have q := mt i_lt.mpr q0; rw [i_T0] at q; omega))
theorem N_icmp_le_NN (hx : p.tables.exec = Jvm.exec) (hb : c.code = cc) {a : Nat} (qa : a < 2 ^ 31) {b : Nat} (qb : b < 2 ^ 31) {off : Int} {tgt : Nat} (hdg : decode cc pc = .ok (.if_icmp .le off, 3)) (ht : (pc : Int) + off = (tgt : Int)) (kt : a ≤ b → W p l e R s m args below meth c H locs cells slots Q (F0 m tgt ls rest)) (kf : b < a → W p l e R s m args below meth c H locs cells slots Q (F0 m (pc + 3) ls rest)) : W p l e R s m args below meth c H locs cells slots Q (F0 m pc ls (.int (nI b) :: .int (nI a) :: rest)) :=
  lv_icmp_le hx hb hdg ht (fun q0 => kt (by have q := i_le.mp q0; rw [i_T qa, i_T qb] at q; omega)) (fun q0 => kf (by have q := mt i_le.mpr q0; rw [i_T qa, i_T qb] at q; omega))
theorem N_icmp_le_RN (hx : p.tables.exec = Jvm.exec) (hb : c.code = cc) {x : Int32} {b : Nat} (qb : b < 2 ^ 31) {off : Int} {tgt : Nat} (hdg : decode cc pc = .ok (.if_icmp .le off, 3)) (ht : (pc : Int) + off = (tgt : Int)) (kt : x.toInt ≤ (b : Int) → W p l e R s m args below meth c H locs cells slots Q (F0 m tgt ls rest)) (kf : (b : Int) < x.toInt → W p l e R s m args below meth c H locs cells slots Q (F0 m (pc + 3) ls rest)) : W p l e R s m args below meth c H locs cells slots Q (F0 m pc ls (.int (nI b) :: .int x :: rest)) :=
  lv_icmp_le hx hb hdg ht (fun q0 => kt (by have q := i_le.mp q0; rw [i_T qb] at q; omega)) (fun q0 => kf (by have q := mt i_le.mpr q0; rw [i_T qb] at q; omega))
theorem N_icmp_le_NR (hx : p.tables.exec = Jvm.exec) (hb : c.code = cc) {a : Nat} (qa : a < 2 ^ 31) {y : Int32} {off : Int} {tgt : Nat} (hdg : decode cc pc = .ok (.if_icmp .le off, 3)) (ht : (pc : Int) + off = (tgt : Int)) (kt : (a : Int) ≤ y.toInt → W p l e R s m args below meth c H locs cells slots Q (F0 m tgt ls rest)) (kf : y.toInt < (a : Int) → W p l e R s m args below meth c H locs cells slots Q (F0 m (pc + 3) ls rest)) : W p l e R s m args below meth c H locs cells slots Q (F0 m pc ls (.int y :: .int (nI a) :: rest)) :=
  lv_icmp_le hx hb hdg ht (fun q0 => kt (by have q := i_le.mp q0; rw [i_T qa] at q; omega)) (fun q0 => kf (by have q := mt i_le.mpr q0; rw [i_T qa] at q; omega))
theorem N_icmp_le_RR (hx : p.tables.exec = Jvm.exec) (hb : c.code = cc) {x : Int32} {y : Int32} {off : Int} {tgt : Nat} (hdg : decode cc pc = .ok (.if_icmp .le off, 3)) (ht : (pc : Int) + off = (tgt : Int)) (kt : x.toInt ≤ y.toInt → W p l e R s m args below meth c H locs cells slots Q (F0 m tgt ls rest)) (kf : y.toInt < x.toInt → W p l e R s m args below meth c H locs cells slots Q (F0 m (pc + 3) ls rest)) : W p l e R s m args below meth c H locs cells slots Q (F0 m pc ls (.int y :: .int x :: rest)) :=
  lv_icmp_le hx hb hdg ht (fun q0 => kt (by have q := i_le.mp q0; skip; omega)) (fun q0 => kf (by have q := mt i_le.mpr q0; skip; omega))
theorem N_if_le_N (hx : p.tables.exec = Jvm.exec) (hb : c.code = cc) {a : Nat} (qa : a < 2 ^ 31) {off : Int} {tgt : Nat} (hdg : decode cc pc = .ok (.ifCond .le off, 3)) (ht : (pc : Int) + off = (tgt : Int)) (kt : a ≤ 0 → W p l e R s m args below meth c H locs cells slots Q (F0 m tgt ls rest)) (kf : 0 < a → W p l e R s m args below meth c H locs cells slots Q (F0 m (pc + 3) ls rest)) : W p l e R s m args below meth c H locs cells slots Q (F0 m pc ls (.int (nI a) :: rest)) :=
  lv_if_le hx hb hdg ht (fun q0 => kt (by have q := i_le.mp q0; rw [i_T qa, i_T0] at q; omega)) (fun q0 => kf (by have q := mt i_le.mpr q0; rw [i_T qa, i_T0] at q; omega))
theorem N_if_le_R (hx : p.tables.exec = Jvm.exec) (hb : c.code = cc) {x : Int32} {off : Int} {tgt : Nat} (hdg : decode cc pc = .ok (.ifCond .le off, 3)) (ht : (pc : Int) + off = (tgt : Int)) (kt : x.toInt ≤ 0 → W p l e R s m args below meth c H locs cells slots Q (F0 m tgt ls rest)) (kf : 0 < x.toInt → W p l e R s m args below meth c H locs cells slots Q (F0 m (pc + 3) ls rest)) : W p l e R s m args below meth c H locs cells slots Q (F0 m pc ls (.int x :: rest)) :=
  lv_if_le hx hb hdg ht (fun q0 => kt (by have q := i_le.mp q0; rw [i_T0] at q; omega)) (fun q0 => kf (by have q := mt i_le.mpr q0; rw [i_T0] at q; omega))
theorem N_icmp_eq_NN (hx : p.tables.exec = Jvm.exec) (hb : c.code = cc) {a : Nat} (qa : a < 2 ^ 31) {b : Nat} (qb : b < 2 ^ 31) {off : Int} {tgt : Nat} (hdg : decode cc pc = .ok (.if_icmp .eq off, 3)) (ht : (pc : Int) + off = (tgt : Int)) (kt : a = b → W p l e R s m args below meth c H locs cells slots Q (F0 m tgt ls rest)) (kf : a ≠ b → W p l e R s m args below meth c H locs cells slots Q (F0 m (pc + 3) ls rest)) : W p l e R s m args below meth c H locs cells slots Q (F0 m pc ls (.int (nI b) :: .int (nI a) :: rest)) :=
  lv_icmp_eq hx hb hdg ht (fun q0 => kt (by have q := i_eq.mp q0; rw [i_T qa, i_T qb] at q; omega)) (fun q0 => kf (by have q := mt i_eq.mpr q0; rw [i_T qa, i_T qb] at q; omega))
theorem N_icmp_eq_RN (hx : p.tables.exec = Jvm.exec) (hb : c.code = cc) {x : Int32} {b : Nat} (qb : b < 2 ^ 31) {off : Int} {tgt : Nat} (hdg : decode cc pc = .ok (.if_icmp .eq off, 3)) (ht : (pc : Int) + off = (tgt : Int)) (kt : x.toInt = (b : Int) → W p l e R s m args below meth c H locs cells slots Q (F0 m tgt ls rest)) (kf : x.toInt ≠ (b : Int) → W p l e R s m args below meth c H locs cells slots Q (F0 m (pc + 3) ls rest)) : W p l e R s m args below meth c H locs cells slots Q (F0 m pc ls (.int (nI b) :: .int x :: rest)) :=
  lv_icmp_eq hx hb hdg ht (fun q0 => kt (by have q := i_eq.mp q0; rw [i_T qb] at q; omega)) (fun q0 => kf (by have q := mt i_eq.mpr q0; rw [i_T qb] at q; omega))
theorem N_icmp_eq_NR (hx : p.tables.exec = Jvm.exec) (hb : c.code = cc) {a : Nat} (qa : a < 2 ^ 31) {y : Int32} {off : Int} {tgt : Nat} (hdg : decode cc pc = .ok (.if_icmp .eq off, 3)) (ht : (pc : Int) + off = (tgt : Int)) (kt : (a : Int) = y.toInt → W p l e R s m args below meth c H locs cells slots Q (F0 m tgt ls rest)) (kf : (a : Int) ≠ y.toInt → W p l e R s m args below meth c H locs cells slots Q (F0 m (pc + 3) ls rest)) : W p l e R s m args below meth c H locs cells slots Q (F0 m pc ls (.int y :: .int (nI a) :: rest)) :=
  lv_icmp_eq hx hb hdg ht (fun q0 => kt (by have q := i_eq.mp q0; rw [i_T qa] at q; omega)) (fun q0 => kf (by have q := mt i_eq.mpr q0; rw [i_T qa] at q; omega))
theorem N_icmp_eq_RR (hx : p.tables.exec = Jvm.exec) (hb : c.code = cc) {x : Int32} {y : Int32} {off : Int} {tgt : Nat} (hdg : decode cc pc = .ok (.if_icmp .eq off, 3)) (ht : (pc : Int) + off = (tgt : Int)) (kt : x.toInt = y.toInt → W p l e R s m args below meth c H locs cells slots Q (F0 m tgt ls rest)) (kf : x.toInt ≠ y.toInt → W p l e R s m args below meth c H locs cells slots Q (F0 m (pc + 3) ls rest)) : W p l e R s m args below meth c H locs cells slots Q (F0 m pc ls (.int y :: .int x :: rest)) :=
  lv_icmp_eq hx hb hdg ht (fun q0 => kt (by have q := i_eq.mp q0; skip; omega)) (fun q0 => kf (by have q := mt i_eq.mpr q0; skip; omega))
theorem N_if_eq_N (hx : p.tables.exec = Jvm.exec) (hb : c.code = cc) {a : Nat} (qa : a < 2 ^ 31) {off : Int} {tgt : Nat} (hdg : decode cc pc = .ok (.ifCond .eq off, 3)) (ht : (pc : Int) + off = (tgt : Int)) (kt : a = 0 → W p l e R s m args below meth c H locs cells slots Q (F0 m tgt ls rest)) (kf : a ≠ 0 → W p l e R s m args below meth c H locs cells slots Q (F0 m (pc + 3) ls rest)) : W p l e R s m args below meth c H locs cells slots Q (F0 m pc ls (.int (nI a) :: rest)) :=
  lv_if_eq hx hb hdg ht (fun q0 => kt (by have q := i_eq.mp q0; rw [i_T qa, i_T0] at q; omega)) (fun q0 => kf (by have q := mt i_eq.mpr q0; rw [i_T qa, i_T0] at q; omega))
theorem N_if_eq_R (hx : p.tables.exec = Jvm.exec) (hb : c.code = cc) {x : Int32} {off : Int} {tgt : Nat} (hdg : decode cc pc = .ok (.ifCond .eq off, 3)) (ht : (pc : Int) + off = (tgt : Int)) (kt : x.toInt = 0 → W p l e R s m args below meth c H locs cells slots Q (F0 m tgt ls rest)) (kf : x.toInt ≠ 0 → W p l e R s m args below meth c H locs cells slots Q (F0 m (pc + 3) ls rest)) : W p l e R s m args below meth c H locs cells slots Q (F0 m pc ls (.int x :: rest)) :=
  lv_if_eq hx hb hdg ht (fun q0 => kt (by have q := i_eq.mp q0; rw [i_T0] at q; omega)) (fun q0 => kf (by have q := mt i_eq.mpr q0; rw [i_T0] at q; omega))
theorem N_icmp_ne_NN (hx : p.tables.exec = Jvm.exec) (hb : c.code = cc) {a : Nat} (qa : a < 2 ^ 31) {b : Nat} (qb : b < 2 ^ 31) {off : Int} {tgt : Nat} (hdg : decode cc pc = .ok (.if_icmp .ne off, 3)) (ht : (pc : Int) + off = (tgt : Int)) (kt : a ≠ b → W p l e R s m args below meth c H locs cells slots Q (F0 m tgt ls rest)) (kf : a = b → W p l e R s m args below meth c H locs cells slots Q (F0 m (pc + 3) ls rest)) : W p l e R s m args below meth c H locs cells slots Q (F0 m pc ls (.int (nI b) :: .int (nI a) :: rest)) :=
  lv_icmp_ne hx hb hdg ht (fun q0 => kt (fun q1 => q0 (i_eq.mpr (by rw [i_T qa, i_T qb]; omega)))) (fun q0 => kf (by have q := i_eq.mp q0; rw [i_T qa, i_T qb] at q; omega))
theorem N_icmp_ne_RN (hx : p.tables.exec = Jvm.exec) (hb : c.code = cc) {x : Int32} {b : Nat} (qb : b < 2 ^ 31) {off : Int} {tgt : Nat} (hdg : decode cc pc = .ok (.if_icmp .ne off, 3)) (ht : (pc : Int) + off = (tgt : Int)) (kt : x.toInt ≠ (b : Int) → W p l e R s m args below meth c H locs cells slots Q (F0 m tgt ls rest)) (kf : x.toInt = (b : Int) → W p l e R s m args below meth c H locs cells slots Q (F0 m (pc + 3) ls rest)) : W p l e R s m args below meth c H locs cells slots Q (F0 m pc ls (.int (nI b) :: .int x :: rest)) :=
  lv_icmp_ne hx hb hdg ht (fun q0 => kt (fun q1 => q0 (i_eq.mpr (by rw [i_T qb]; omega)))) (fun q0 => kf (by have q := i_eq.mp q0; rw [i_T qb] at q; omega))
theorem N_icmp_ne_NR (hx : p.tables.exec = Jvm.exec) (hb : c.code = cc) {a : Nat} (qa : a < 2 ^ 31) {y : Int32} {off : Int} {tgt : Nat} (hdg : decode cc pc = .ok (.if_icmp .ne off, 3)) (ht : (pc : Int) + off = (tgt : Int)) (kt : (a : Int) ≠ y.toInt → W p l e R s m args below meth c H locs cells slots Q (F0 m tgt ls rest)) (kf : (a : Int) = y.toInt → W p l e R s m args below meth c H locs cells slots Q (F0 m (pc + 3) ls rest)) : W p l e R s m args below meth c H locs cells slots Q (F0 m pc ls (.int y :: .int (nI a) :: rest)) :=
  lv_icmp_ne hx hb hdg ht (fun q0 => kt (fun q1 => q0 (i_eq.mpr (by rw [i_T qa]; omega)))) (fun q0 => kf (by have q := i_eq.mp q0; rw [i_T qa] at q; omega))
theorem N_icmp_ne_RR (hx : p.tables.exec = Jvm.exec) (hb : c.code = cc) {x : Int32} {y : Int32} {off : Int} {tgt : Nat} (hdg : decode cc pc = .ok (.if_icmp .ne off, 3)) (ht : (pc : Int) + off = (tgt : Int)) (kt : x.toInt ≠ y.toInt → W p l e R s m args below meth c H locs cells slots Q (F0 m tgt ls rest)) (kf : x.toInt = y.toInt → W p l e R s m args below meth c H locs cells slots Q (F0 m (pc + 3) ls rest)) : W p l e R s m args below meth c H locs cells slots Q (F0 m pc ls (.int y :: .int x :: rest)) :=
  lv_icmp_ne hx hb hdg ht (fun q0 => kt (fun q1 => q0 (i_eq.mpr (by omega)))) (fun q0 => kf (by have q := i_eq.mp q0; skip; omega))
theorem N_if_ne_N (hx : p.tables.exec = Jvm.exec) (hb : c.code = cc) {a : Nat} (qa : a < 2 ^ 31) {off : Int} {tgt : Nat} (hdg : decode cc pc = .ok (.ifCond .ne off, 3)) (ht : (pc : Int) + off = (tgt : Int)) (kt : a ≠ 0 → W p l e R s m args below meth c H locs cells slots Q (F0 m tgt ls rest)) (kf : a = 0 → W p l e R s m args below meth c H locs cells slots Q (F0 m (pc + 3) ls rest)) : W p l e R s m args below meth c H locs cells slots Q (F0 m pc ls (.int (nI a) :: rest)) :=
  lv_if_ne hx hb hdg ht (fun q0 => kt (fun q1 => q0 (i_eq.mpr (by rw [i_T qa, i_T0]; omega)))) (fun q0 => kf (by have q := i_eq.mp q0; rw [i_T qa, i_T0] at q; omega))
theorem N_if_ne_R (hx : p.tables.exec = Jvm.exec) (hb : c.code = cc) {x : Int32} {off : Int} {tgt : Nat} (hdg : decode cc pc = .ok (.ifCond .ne off, 3)) (ht : (pc : Int) + off = (tgt : Int)) (kt : x.toInt ≠ 0 → W p l e R s m args below meth c H locs cells slots Q (F0 m tgt ls rest)) (kf : x.toInt = 0 → W p l e R s m args below meth c H locs cells slots Q (F0 m (pc + 3) ls rest)) : W p l e R s m args below meth c H locs cells slots Q (F0 m pc ls (.int x :: rest)) :=
  lv_if_ne hx hb hdg ht (fun q0 => kt (fun q1 => q0 (i_eq.mpr (by rw [i_T0]; omega)))) (fun q0 => kf (by have q := i_eq.mp q0; rw [i_T0] at q; omega))
theorem N_if_eq_B (hx : p.tables.exec = Jvm.exec) (hb : c.code = cc) {b : Bool} {off : Int} {tgt : Nat} (hdg : decode cc pc = .ok (.ifCond .eq off, 3)) (ht : (pc : Int) + off = (tgt : Int)) (kt : b = false → W p l e R s m args below meth c H locs cells slots Q (F0 m tgt ls rest)) (kf : b = true → W p l e R s m args below meth c H locs cells slots Q (F0 m (pc + 3) ls rest)) : W p l e R s m args below meth c H locs cells slots Q (F0 m pc ls (.int (bI b) :: rest)) :=
  lv_if_eq hx hb hdg ht (fun q => kt (bI_0.mp q)) (fun q => kf (by cases b with | true => rfl | false => exact absurd rfl q))
theorem N_if_ne_B (hx : p.tables.exec = Jvm.exec) (hb : c.code = cc) {b : Bool} {off : Int} {tgt : Nat} (hdg : decode cc pc = .ok (.ifCond .ne off, 3)) (ht : (pc : Int) + off = (tgt : Int)) (kt : b = true → W p l e R s m args below meth c H locs cells slots Q (F0 m tgt ls rest)) (kf : b = false → W p l e R s m args below meth c H locs cells slots Q (F0 m (pc + 3) ls rest)) : W p l e R s m args below meth c H locs cells slots Q (F0 m pc ls (.int (bI b) :: rest)) :=
  lv_if_ne hx hb hdg ht (fun q => kt (by cases b with | true => rfl | false => exact absurd rfl q)) (fun q => kf (bI_0.mp q))
theorem oI_m1 {o : Option Nat} (ho : ∀ n, o = some n → n < 2 ^ 31) : oI o = -1 ↔ o = none := by
  cases o with
  | none => exact ⟨fun _ => rfl, fun _ => rfl⟩
  | some n =>
    refine ⟨fun h => ?_, fun h => by cases h⟩
    have h1 : nI n = -1 := h
    have h2 := i_eq.mp h1
    rw [i_T (ho n rfl), i_Tm1] at h2
    omega
theorem N_icmp_eq_Om (hx : p.tables.exec = Jvm.exec) (hb : c.code = cc) {o : Option Nat} (ho : ∀ n, o = some n → n < 2 ^ 31) {off : Int} {tgt : Nat} (hdg : decode cc pc = .ok (.if_icmp .eq off, 3)) (ht : (pc : Int) + off = (tgt : Int)) (kt : o = none → W p l e R s m args below meth c H locs cells slots Q (F0 m tgt ls rest)) (kf : o ≠ none → W p l e R s m args below meth c H locs cells slots Q (F0 m (pc + 3) ls rest)) : W p l e R s m args below meth c H locs cells slots Q (F0 m pc ls (.int (-1) :: .int (oI o) :: rest)) :=
  lv_icmp_eq hx hb hdg ht (fun q => kt ((oI_m1 ho).mp q)) (fun q => kf (fun z => q ((oI_m1 ho).mpr z)))
theorem N_icmp_ne_Om (hx : p.tables.exec = Jvm.exec) (hb : c.code = cc) {o : Option Nat} (ho : ∀ n, o = some n → n < 2 ^ 31) {off : Int} {tgt : Nat} (hdg : decode cc pc = .ok (.if_icmp .ne off, 3)) (ht : (pc : Int) + off = (tgt : Int)) (kt : o ≠ none → W p l e R s m args below meth c H locs cells slots Q (F0 m tgt ls rest)) (kf : o = none → W p l e R s m args below meth c H locs cells slots Q (F0 m (pc + 3) ls rest)) : W p l e R s m args below meth c H locs cells slots Q (F0 m pc ls (.int (-1) :: .int (oI o) :: rest)) :=
  lv_icmp_ne hx hb hdg ht (fun q => kt (fun z => q ((oI_m1 ho).mpr z))) (fun q => kf ((oI_m1 ho).mp q))
theorem N_icmp_eq_BB (hx : p.tables.exec = Jvm.exec) (hb : c.code = cc) {a b : Bool} {off : Int} {tgt : Nat} (hdg : decode cc pc = .ok (.if_icmp .eq off, 3)) (ht : (pc : Int) + off = (tgt : Int)) (kt : a = b → W p l e R s m args below meth c H locs cells slots Q (F0 m tgt ls rest)) (kf : a ≠ b → W p l e R s m args below meth c H locs cells slots Q (F0 m (pc + 3) ls rest)) : W p l e R s m args below meth c H locs cells slots Q (F0 m pc ls (.int (bI b) :: .int (bI a) :: rest)) :=
  lv_icmp_eq hx hb hdg ht (fun q => kt (bI_inj.mp q)) (fun q => kf (fun z => q (bI_inj.mpr z)))
theorem N_icmp_ne_BB (hx : p.tables.exec = Jvm.exec) (hb : c.code = cc) {a b : Bool} {off : Int} {tgt : Nat} (hdg : decode cc pc = .ok (.if_icmp .ne off, 3)) (ht : (pc : Int) + off = (tgt : Int)) (kt : a ≠ b → W p l e R s m args below meth c H locs cells slots Q (F0 m tgt ls rest)) (kf : a = b → W p l e R s m args below meth c H locs cells slots Q (F0 m (pc + 3) ls rest)) : W p l e R s m args below meth c H locs cells slots Q (F0 m pc ls (.int (bI b) :: .int (bI a) :: rest)) :=
  lv_icmp_ne hx hb hdg ht (fun q => kt (fun z => q (bI_inj.mpr z))) (fun q => kf (bI_inj.mp q))
theorem N_if_lt_O (hx : p.tables.exec = Jvm.exec) (hb : c.code = cc) {o : Option Nat} (ho : ∀ n, o = some n → n < 2 ^ 31) {off : Int} {tgt : Nat} (hdg : decode cc pc = .ok (.ifCond .lt off, 3)) (ht : (pc : Int) + off = (tgt : Int)) (kt : o = none → W p l e R s m args below meth c H locs cells slots Q (F0 m tgt ls rest)) (kf : o ≠ none → W p l e R s m args below meth c H locs cells slots Q (F0 m (pc + 3) ls rest)) : W p l e R s m args below meth c H locs cells slots Q (F0 m pc ls (.int (oI o) :: rest)) := by
  cases o with
  | none =>
    have e1 : oI none = -1 := rfl
    refine lv_if_lt hx hb hdg ht (fun q => kt rfl) (fun q => absurd (by rw [e1]; decide) q)
  | some n =>
    have h1 := ho n rfl
    refine lv_if_lt hx hb hdg ht (fun q => ?_) (fun q => ?_)
    · exfalso; have z := i_lt.mp q; rw [show oI (some n) = nI n from rfl, i_T h1, i_T0] at z; omega
    · exact kf (fun z => by cases z)
theorem N_if_ge_O (hx : p.tables.exec = Jvm.exec) (hb : c.code = cc) {o : Option Nat} (ho : ∀ n, o = some n → n < 2 ^ 31) {off : Int} {tgt : Nat} (hdg : decode cc pc = .ok (.ifCond .ge off, 3)) (ht : (pc : Int) + off = (tgt : Int)) (kt : o ≠ none → W p l e R s m args below meth c H locs cells slots Q (F0 m tgt ls rest)) (kf : o = none → W p l e R s m args below meth c H locs cells slots Q (F0 m (pc + 3) ls rest)) : W p l e R s m args below meth c H locs cells slots Q (F0 m pc ls (.int (oI o) :: rest)) := by
  cases o with
  | none =>
    have e1 : oI none = -1 := rfl
    refine lv_if_ge hx hb hdg ht (fun q => absurd q (by rw [e1]; decide)) (fun q => kf rfl)
  | some n =>
    have h1 := ho n rfl
    refine lv_if_ge hx hb hdg ht (fun q => ?_) (fun q => ?_)
    · exact kt (fun z => by cases z)
    · exfalso; exact q (i_le.mpr (by rw [show oI (some n) = nI n from rfl, i_T h1, i_T0]; omega))
theorem N_iadd (hx : p.tables.exec = Jvm.exec) (hb : c.code = cc) {a b : Nat}  (hdg : decode cc pc = .ok (.iadd, 1)) (kk : W p l e R s m args below meth c H locs cells slots Q (F0 m (pc + 1) ls (.int (nI (a + b)) :: rest))) : W p l e R s m args below meth c H locs cells slots Q (F0 m pc ls (.int (nI b) :: .int (nI a) :: rest)) := by
  refine lv_iadd hx hb hdg ?_
  rw [nI_add]
  exact kk
theorem N_isub (hx : p.tables.exec = Jvm.exec) (hb : c.code = cc) {a b : Nat} {r : Nat} (h : b ≤ a) (hr : a - b = r) (hdg : decode cc pc = .ok (.isub, 1)) (kk : W p l e R s m args below meth c H locs cells slots Q (F0 m (pc + 1) ls (.int (nI r) :: rest))) : W p l e R s m args below meth c H locs cells slots Q (F0 m pc ls (.int (nI b) :: .int (nI a) :: rest)) := by
  refine lv_isub hx hb hdg ?_
  rw [pk_sub h, hr]
  exact kk
theorem N_imul (hx : p.tables.exec = Jvm.exec) (hb : c.code = cc) {a b : Nat}  (hdg : decode cc pc = .ok (.imul, 1)) (kk : W p l e R s m args below meth c H locs cells slots Q (F0 m (pc + 1) ls (.int (nI (a * b)) :: rest))) : W p l e R s m args below meth c H locs cells slots Q (F0 m pc ls (.int (nI b) :: .int (nI a) :: rest)) := by
  refine lv_imul hx hb hdg ?_
  rw [pk_mul]
  exact kk
theorem N_idiv (hx : p.tables.exec = Jvm.exec) (hb : c.code = cc) {a b : Nat} (ha : a < 2 ^ 31) (h0 : 0 < b) (hb2 : b < 2 ^ 31) (hdg : decode cc pc = .ok (.idiv, 1)) (kk : W p l e R s m args below meth c H locs cells slots Q (F0 m (pc + 1) ls (.int (nI (a / b)) :: rest))) : W p l e R s m args below meth c H locs cells slots Q (F0 m pc ls (.int (nI b) :: .int (nI a) :: rest)) := by
  refine lv_idiv hx hb hdg (by exact nI_ne0 h0 hb2) ?_
  rw [pk_div ha h0 hb2]
  exact kk
theorem N_ladd (hx : p.tables.exec = Jvm.exec) (hb : c.code = cc) {a b : Nat}  (hdg : decode cc pc = .ok (.ladd, 1)) (kk : W p l e R s m args below meth c H locs cells slots Q (F0 m (pc + 1) ls (.long (lN (a + b)) :: rest))) : W p l e R s m args below meth c H locs cells slots Q (F0 m pc ls (.long (lN b) :: .long (lN a) :: rest)) := by
  refine lv_ladd hx hb hdg ?_
  rw [lN_add]
  exact kk
theorem N_lmul (hx : p.tables.exec = Jvm.exec) (hb : c.code = cc) {a b : Nat}  (hdg : decode cc pc = .ok (.lmul, 1)) (kk : W p l e R s m args below meth c H locs cells slots Q (F0 m (pc + 1) ls (.long (lN (a * b)) :: rest))) : W p l e R s m args below meth c H locs cells slots Q (F0 m pc ls (.long (lN b) :: .long (lN a) :: rest)) := by
  refine lv_lmul hx hb hdg ?_
  rw [lN_mul]
  exact kk
theorem N_i2l (hx : p.tables.exec = Jvm.exec) (hb : c.code = cc) {a : Nat} (h : a < 2 ^ 31) (hdg : decode cc pc = .ok (.i2l, 1)) (kk : W p l e R s m args below meth c H locs cells slots Q (F0 m (pc + 1) ls (.long (lN a) :: rest))) : W p l e R s m args below meth c H locs cells slots Q (F0 m pc ls (.int (nI a) :: rest)) := lv_i2l hx hb hdg (nI_l h) kk
theorem N_inc (a : Nat) : nI a + Int32.ofInt 1 = nI (a + 1) := (nI_succ a).symm
theorem N_dec {a r : Nat} (h : 0 < a) (hr : a - 1 = r) : nI a + Int32.ofInt (-1) = nI r := by subst hr; exact sb_m1 h
theorem lc_of {a b : Nat} (ha : a < 2 ^ 63) (hb : b < 2 ^ 63) : lg_cmp (lN a) (lN b) = if b < a then 1 else if a = b then 0 else -1 := by
  unfold lg_cmp
  simp only [pk_lLT hb ha, pk_lEQ ha hb]
  try (by_cases h1 : b < a <;> by_cases h2 : a = b <;> simp [h1, h2] <;> omega)
theorem N_lcmp_lt (hx : p.tables.exec = Jvm.exec) (hb : c.code = cc) {a b : Nat} (ha : a < 2 ^ 63) (hb2 : b < 2 ^ 63) {off : Int} {tgt : Nat} (hd1 : decode cc pc = .ok (.lcmp, 1)) (hd2 : decode cc (pc + 1) = .ok (.ifCond .lt off, 3)) (ht : ((pc + 1 : Nat) : Int) + off = (tgt : Int)) (kt : a < b → W p l e R s m args below meth c H locs cells slots Q (F0 m tgt ls rest)) (kf : b ≤ a → W p l e R s m args below meth c H locs cells slots Q (F0 m (pc + 1 + 3) ls rest)) : W p l e R s m args below meth c H locs cells slots Q (F0 m pc ls (.long (lN b) :: .long (lN a) :: rest)) := by
  refine W.lcmp hx hb hd1 ?_
  rw [lc_of ha hb2]
  have e1 : (1 : Int32).toInt = 1 := by decide +kernel
  refine lv_if_lt hx hb hd2 ht (fun q => kt ?_) (fun q => kf ?_)
  all_goals
    by_cases h1 : b < a
    · simp only [h1, if_true, i_le, i_lt, i_eq, i_T0, e1] at q
      first | omega | (exfalso; exact absurd q (by decide)) | (intro; omega)
    · by_cases h2 : a = b
      · simp only [h1, h2, if_true, if_false, Nat.lt_irrefl, i_le, i_lt, i_eq, i_T0] at q
        first | omega | (exfalso; exact absurd q (by decide)) | (intro; omega)
      · simp only [h1, h2, if_true, if_false, i_le, i_lt, i_eq, i_T0, i_Tm1] at q
        first | omega | (exfalso; exact absurd q (by decide)) | (intro; omega)
theorem N_lcmp_ge (hx : p.tables.exec = Jvm.exec) (hb : c.code = cc) {a b : Nat} (ha : a < 2 ^ 63) (hb2 : b < 2 ^ 63) {off : Int} {tgt : Nat} (hd1 : decode cc pc = .ok (.lcmp, 1)) (hd2 : decode cc (pc + 1) = .ok (.ifCond .ge off, 3)) (ht : ((pc + 1 : Nat) : Int) + off = (tgt : Int)) (kt : b ≤ a → W p l e R s m args below meth c H locs cells slots Q (F0 m tgt ls rest)) (kf : a < b → W p l e R s m args below meth c H locs cells slots Q (F0 m (pc + 1 + 3) ls rest)) : W p l e R s m args below meth c H locs cells slots Q (F0 m pc ls (.long (lN b) :: .long (lN a) :: rest)) := by
  refine W.lcmp hx hb hd1 ?_
  rw [lc_of ha hb2]
  have e1 : (1 : Int32).toInt = 1 := by decide +kernel
  refine lv_if_ge hx hb hd2 ht (fun q => kt ?_) (fun q => kf ?_)
  all_goals
    by_cases h1 : b < a
    · simp only [h1, if_true, i_le, i_lt, i_eq, i_T0, e1] at q
      first | omega | (exfalso; exact absurd q (by decide)) | (intro; omega)
    · by_cases h2 : a = b
      · simp only [h1, h2, if_true, if_false, Nat.lt_irrefl, i_le, i_lt, i_eq, i_T0] at q
        first | omega | (exfalso; exact absurd q (by decide)) | (intro; omega)
      · simp only [h1, h2, if_true, if_false, i_le, i_lt, i_eq, i_T0, i_Tm1] at q
        first | omega | (exfalso; exact absurd q (by decide)) | (intro; omega)
theorem N_lcmp_gt (hx : p.tables.exec = Jvm.exec) (hb : c.code = cc) {a b : Nat} (ha : a < 2 ^ 63) (hb2 : b < 2 ^ 63) {off : Int} {tgt : Nat} (hd1 : decode cc pc = .ok (.lcmp, 1)) (hd2 : decode cc (pc + 1) = .ok (.ifCond .gt off, 3)) (ht : ((pc + 1 : Nat) : Int) + off = (tgt : Int)) (kt : b < a → W p l e R s m args below meth c H locs cells slots Q (F0 m tgt ls rest)) (kf : a ≤ b → W p l e R s m args below meth c H locs cells slots Q (F0 m (pc + 1 + 3) ls rest)) : W p l e R s m args below meth c H locs cells slots Q (F0 m pc ls (.long (lN b) :: .long (lN a) :: rest)) := by
  refine W.lcmp hx hb hd1 ?_
  rw [lc_of ha hb2]
  have e1 : (1 : Int32).toInt = 1 := by decide +kernel
  refine lv_if_gt hx hb hd2 ht (fun q => kt ?_) (fun q => kf ?_)
  all_goals
    by_cases h1 : b < a
    · simp only [h1, if_true, i_le, i_lt, i_eq, i_T0, e1] at q
      first | omega | (exfalso; exact absurd q (by decide)) | (intro; omega)
    · by_cases h2 : a = b
      · simp only [h1, h2, if_true, if_false, Nat.lt_irrefl, i_le, i_lt, i_eq, i_T0] at q
        first | omega | (exfalso; exact absurd q (by decide)) | (intro; omega)
      · simp only [h1, h2, if_true, if_false, i_le, i_lt, i_eq, i_T0, i_Tm1] at q
        first | omega | (exfalso; exact absurd q (by decide)) | (intro; omega)
theorem N_lcmp_le (hx : p.tables.exec = Jvm.exec) (hb : c.code = cc) {a b : Nat} (ha : a < 2 ^ 63) (hb2 : b < 2 ^ 63) {off : Int} {tgt : Nat} (hd1 : decode cc pc = .ok (.lcmp, 1)) (hd2 : decode cc (pc + 1) = .ok (.ifCond .le off, 3)) (ht : ((pc + 1 : Nat) : Int) + off = (tgt : Int)) (kt : a ≤ b → W p l e R s m args below meth c H locs cells slots Q (F0 m tgt ls rest)) (kf : b < a → W p l e R s m args below meth c H locs cells slots Q (F0 m (pc + 1 + 3) ls rest)) : W p l e R s m args below meth c H locs cells slots Q (F0 m pc ls (.long (lN b) :: .long (lN a) :: rest)) := by
  refine W.lcmp hx hb hd1 ?_
  rw [lc_of ha hb2]
  have e1 : (1 : Int32).toInt = 1 := by decide +kernel
  refine lv_if_le hx hb hd2 ht (fun q => kt ?_) (fun q => kf ?_)
  all_goals
    by_cases h1 : b < a
    · simp only [h1, if_true, i_le, i_lt, i_eq, i_T0, e1] at q
      first | omega | (exfalso; exact absurd q (by decide)) | (intro; omega)
    · by_cases h2 : a = b
      · simp only [h1, h2, if_true, if_false, Nat.lt_irrefl, i_le, i_lt, i_eq, i_T0] at q
        first | omega | (exfalso; exact absurd q (by decide)) | (intro; omega)
      · simp only [h1, h2, if_true, if_false, i_le, i_lt, i_eq, i_T0, i_Tm1] at q
        first | omega | (exfalso; exact absurd q (by decide)) | (intro; omega)
theorem N_lcmp_eq (hx : p.tables.exec = Jvm.exec) (hb : c.code = cc) {a b : Nat} (ha : a < 2 ^ 63) (hb2 : b < 2 ^ 63) {off : Int} {tgt : Nat} (hd1 : decode cc pc = .ok (.lcmp, 1)) (hd2 : decode cc (pc + 1) = .ok (.ifCond .eq off, 3)) (ht : ((pc + 1 : Nat) : Int) + off = (tgt : Int)) (kt : a = b → W p l e R s m args below meth c H locs cells slots Q (F0 m tgt ls rest)) (kf : a ≠ b → W p l e R s m args below meth c H locs cells slots Q (F0 m (pc + 1 + 3) ls rest)) : W p l e R s m args below meth c H locs cells slots Q (F0 m pc ls (.long (lN b) :: .long (lN a) :: rest)) := by
  refine W.lcmp hx hb hd1 ?_
  rw [lc_of ha hb2]
  have e1 : (1 : Int32).toInt = 1 := by decide +kernel
  refine lv_if_eq hx hb hd2 ht (fun q => kt ?_) (fun q => kf ?_)
  all_goals
    by_cases h1 : b < a
    · simp only [h1, if_true, i_le, i_lt, i_eq, i_T0, e1] at q
      first | omega | (exfalso; exact absurd q (by decide)) | (intro; omega)
    · by_cases h2 : a = b
      · simp only [h1, h2, if_true, if_false, Nat.lt_irrefl, i_le, i_lt, i_eq, i_T0] at q
        first | omega | (exfalso; exact absurd q (by decide)) | (intro; omega)
      · simp only [h1, h2, if_true, if_false, i_le, i_lt, i_eq, i_T0, i_Tm1] at q
        first | omega | (exfalso; exact absurd q (by decide)) | (intro; omega)
theorem N_lcmp_ne (hx : p.tables.exec = Jvm.exec) (hb : c.code = cc) {a b : Nat} (ha : a < 2 ^ 63) (hb2 : b < 2 ^ 63) {off : Int} {tgt : Nat} (hd1 : decode cc pc = .ok (.lcmp, 1)) (hd2 : decode cc (pc + 1) = .ok (.ifCond .ne off, 3)) (ht : ((pc + 1 : Nat) : Int) + off = (tgt : Int)) (kt : a ≠ b → W p l e R s m args below meth c H locs cells slots Q (F0 m tgt ls rest)) (kf : a = b → W p l e R s m args below meth c H locs cells slots Q (F0 m (pc + 1 + 3) ls rest)) : W p l e R s m args below meth c H locs cells slots Q (F0 m pc ls (.long (lN b) :: .long (lN a) :: rest)) := by
  refine W.lcmp hx hb hd1 ?_
  rw [lc_of ha hb2]
  have e1 : (1 : Int32).toInt = 1 := by decide +kernel
  refine lv_if_ne hx hb hd2 ht (fun q => kt ?_) (fun q => kf ?_)
  all_goals
    by_cases h1 : b < a
    · simp only [h1, if_true, i_le, i_lt, i_eq, i_T0, e1] at q
      first | omega | (exfalso; exact absurd q (by decide)) | (intro; omega)
    · by_cases h2 : a = b
      · simp only [h1, h2, if_true, if_false, Nat.lt_irrefl, i_le, i_lt, i_eq, i_T0] at q
        first | omega | (exfalso; exact absurd q (by decide)) | (intro; omega)
      · simp only [h1, h2, if_true, if_false, i_le, i_lt, i_eq, i_T0, i_Tm1] at q
        first | omega | (exfalso; exact absurd q (by decide)) | (intro; omega)
theorem N_lcmp_ge_R0 (hx : p.tables.exec = Jvm.exec) (hb : c.code = cc) {x : Int64} {off : Int} {tgt : Nat} (hd1 : decode cc pc = .ok (.lcmp, 1)) (hd2 : decode cc (pc + 1) = .ok (.ifCond .ge off, 3)) (ht : ((pc + 1 : Nat) : Int) + off = (tgt : Int)) (kt : 0 ≤ x.toInt → W p l e R s m args below meth c H locs cells slots Q (F0 m tgt ls rest)) (kf : x.toInt < 0 → W p l e R s m args below meth c H locs cells slots Q (F0 m (pc + 1 + 3) ls rest)) : W p l e R s m args below meth c H locs cells slots Q (F0 m pc ls (.long (lN 0) :: .long x :: rest)) := by
  refine W.lcmp hx hb hd1 ?_
  have e0 : (lN 0).toInt = 0 := by decide +kernel
  refine lv_if_ge hx hb hd2 ht (fun q => kt ?_) (fun q => kf ?_)
  · have z := Int64.le_iff_toInt_le.mp ((lg_cmp_ge _ _).mp q)
    rw [e0] at z; exact z
  · have z := mt Int64.le_iff_toInt_le.mpr (mt (lg_cmp_ge _ _).mpr q)
    rw [e0] at z; omega
end NROWS
end
section
/-! SPEC1: what the class's small methods compute, as functions of the cells' numbers -/
section SPEC1
def inB (x : Int32) (n : Nat) : Bool := decide (0 ≤ x.toInt ∧ x.toInt < n)
theorem inB_t {x : Int32} {n : Nat} (h : 0 ≤ x.toInt ∧ x.toInt < n) : inB x n = true := decide_eq_true h
theorem inB_f {x : Int32} {n : Nat} (h : ¬ (0 ≤ x.toInt ∧ x.toInt < n)) : inB x n = false := decide_eq_false h
/-- how many of 0 .. n - 1 -/
def cntF (P : Nat → Bool) : Nat → Nat
  | 0 => 0
  | k + 1 => cntF P k + (if P k = true then 1 else 0)
theorem cntF_le (P : Nat → Bool) : ∀ n, cntF P n ≤ n
  | 0 => Nat.le_refl 0
  | k + 1 => by
    have := cntF_le P k
    unfold cntF
    split <;> omega
/-- the first of i .. i + n - 1 -/
def fstG (P : Nat → Bool) : Nat → Nat → Option Nat
  | 0, _ => none
  | n + 1, i => if P i = true then some i else fstG P n (i + 1)
def anyG (P : Nat → Bool) : Nat → Nat → Bool
  | 0, _ => false
  | n + 1, i => if P i = true then true else anyG P n (i + 1)
/-- zeros, or nones, in the first k places -/
def upK {α : Type} (z : α) : Nat → (Nat → α) → Nat → α
  | 0, f => f
  | k + 1, f => va_up (upK z k f) k z
def alk (sco tim : Nat → Nat) (t : Bool) (a b : Nat) : Bool := decide (sco a = sco b ∧ (t = true → tim a = tim b))
def ahd (sco tim : Nat → Nat) (t : Bool) (a b : Nat) : Bool := decide (sco b < sco a ∨ (sco a = sco b ∧ t = true ∧ tim a < tim b))
def hmb (sco tim : Nat → Nat) (ne : Nat) (t : Bool) (x : Nat) : Nat := cntF (fun k => ahd sco tim t k x) ne + cntF (fun k => alk sco tim t k x) x
/-- the insertion of v from place k down -/
def insG (lt : Nat → Nat → Bool) (v : Nat) : Nat → (Nat → Nat) → Nat → Nat
  | 0, fa => va_up fa 0 v
  | k + 1, fa => if lt (fa k) v = true then insG lt v k (va_up fa (k + 1) (fa k)) else va_up fa (k + 1) v
def ltD (gr : Nat → Nat) (a b : Nat) : Bool := decide (gr a < gr b)
def ltT (sec : Nat → Nat) (a b : Nat) : Bool := decide (sec b < sec a)
def rchG (g : Nat) : Nat → (Nat → Bool) → Nat → Bool
  | 0, re => re
  | k + 1, re => if k + 1 < g then re else rchG g k (if re (k + 1 - g) = true then va_up re (k + 1) true else re)
def lowG (re : Nat → Bool) : Nat → Nat
  | 0 => 0
  | k + 1 => if re (k + 1) = true then k + 1 else lowG re k
def lsG (ss sc : Nat → Nat) : Nat → Nat → Nat → Nat
  | 0, _, b => b
  | n + 1, i, b => lsG ss sc n (i + 1) (if ss i < ss b ∨ (ss i = ss b ∧ sc i < sc b) then i else b)
def lsF (ss sc : Nat → Nat) (k : Nat) : Nat := lsG ss sc (k - 1) 1 0
theorem lsG_lt (ss sc : Nat → Nat) : ∀ n i b, b < i + n → 0 < i → lsG ss sc n i b < i + n
  | 0, _, _, h, _ => h
  | n + 1, i, b, h, h0 => by
    unfold lsG
    have := lsG_lt ss sc n (i + 1) (if ss i < ss b ∨ (ss i = ss b ∧ sc i < sc b) then i else b) (by split <;> omega) (by omega)
    omega
theorem lsF_lt {ss sc : Nat → Nat} {k : Nat} (h : 1 ≤ k) : lsF ss sc k < k := by
  have := lsG_lt ss sc (k - 1) 1 0 (by omega) (by omega)
  unfold lsF
  omega
def setG (gr fa : Nat → Nat) (sets q : Nat) : Nat → Nat → (Nat → Nat) → (Nat → Nat) → Option Nat × (Nat → Nat) × (Nat → Nat)
  | 0, _, ss, sc => (none, ss, sc)
  | n + 1, i, ss, sc => if fa i = q then (some (lsF ss sc sets), ss, sc) else setG gr fa sets q n (i + 1) (va_up ss (lsF ss sc sets) (ss (lsF ss sc sets) + gr (fa i))) (va_up sc (lsF ss sc sets) (sc (lsF ss sc sets) + 1))
def setF (gr fa ss sc : Nat → Nat) (np sets q : Nat) : Option Nat × (Nat → Nat) × (Nat → Nat) := setG gr fa sets q np 0 (upK 0 6 ss) (upK 0 6 sc)
def twn (sq ans : Nat → Nat) (rt : Nat → Bool) (a b : Nat) : Bool := decide (rt b = false ∧ sq b = sq a ∧ ans b = ans a)
def twG (sp sq ans : Nat → Nat) (rt : Nat → Bool) (a : Nat) : Nat → Nat → (Nat → Option Nat) → Nat → Option Nat
  | 0, _, tw => tw
  | n + 1, i, tw => twG sp sq ans rt a n (i + 1) (if tw (sp i) = none ∧ twn sq ans rt a i = true then va_up tw (sp i) (some i) else tw)
def dst (x y : Nat) : Nat := if y ≤ x then x - y else y - x
def wth (nw : Nat → Nat) (g s w : Nat) : Nat := g * nw 0 - g * nw 1 * (s / 60) - nw 2 * w
def cpyN (n : Nat) (f g : Nat → Nat) : Nat → Nat := fun k => if k < n then f k else g k
def eodG (un : Nat → Nat) (tl fr : Nat) : Nat → Nat → Nat
  | 0, e => e
  | n + 1, e => if e < tl ∧ e < fr + 4 ∧ 48 ≤ un e ∧ un e ≤ 57 then eodG un tl fr n (e + 1) else e
def numG (un : Nat → Nat) : Nat → Nat → Nat → Nat
  | 0, _, v => v
  | n + 1, i, v => numG un n (i + 1) (v * 10 + (un i - 48))
end SPEC1
section SPEC1B
theorem hmb_lt (sco tim : Nat → Nat) (ne : Nat) (t : Bool) (x : Nat) : hmb sco tim ne t x ≤ ne + x := by
  have h1 := cntF_le (fun k => ahd sco tim t k x) ne
  have h2 := cntF_le (fun k => alk sco tim t k x) x
  unfold hmb
  omega
theorem upK_lt {α : Type} (z : α) : ∀ (n : Nat) (f : Nat → α) (i : Nat), i < n → upK z n f i = z
  | 0, _, _, h => absurd h (Nat.not_lt_zero _)
  | n + 1, f, i, h => by
    unfold upK va_up
    by_cases q : i = n
    · rw [if_pos q]
    · rw [if_neg q]; exact upK_lt z n f i (by omega)
theorem absN {x y : Nat} (hx : x ≤ 1000000) (hy : y ≤ 1000000) : (if 0 ≤ nI x - nI y then nI x - nI y else 0 - (nI x - nI y)) = nI (dst x y) := by
  have e := pk_sub_toInt (a := x) (b := y) (by omega) (by omega)
  have i0 : (0 : Int32).toInt = 0 := by decide +kernel
  unfold dst
  by_cases h : y ≤ x
  · rw [if_pos h, if_pos (Int32.le_iff_toInt_le.mpr (by rw [e, i0]; omega)), pk_sub h]
  · rw [if_neg h, if_neg (fun q => h (by have := Int32.le_iff_toInt_le.mp q; rw [e, i0] at this; omega))]
    rw [← pk_sub (show x ≤ y by omega)]
    have : (0 : Int32) - (nI x - nI y) = nI y - nI x := by
      rw [Int32.zero_sub, Int32.neg_sub]
    exact this
theorem mul_le3 {a b c A B C : Nat} (h1 : a ≤ A) (h2 : b ≤ B) (h3 : c ≤ C) : a * b * c ≤ A * B * C := Nat.mul_le_mul (Nat.mul_le_mul h1 h2) h3
theorem lN_ofInt (n : Nat) : lN n = Int64.ofInt (n : Int) := by
  unfold lN
  rw [Int64.ofInt_eq_ofNat]
theorem wth_max {nw : Nat → Nat} {g x w : Nat} (hg : g ≤ 100) (hx : x ≤ 1000000) (hw : w ≤ 300) (h0 : nw 0 ≤ 9999) (h1 : nw 1 ≤ 9999) (h2 : nw 2 ≤ 9999) : (if lN (g * nw 0) - lN (g * nw 1 * (x / 60)) - lN (nw 2 * w) < lN 0 then lN 0 else lN (g * nw 0) - lN (g * nw 1 * (x / 60)) - lN (nw 2 * w)) = lN (wth nw g x w) := by
  have b1 : g * nw 0 ≤ 100 * 9999 := Nat.mul_le_mul hg h0
  have b2 : g * nw 1 * (x / 60) ≤ 100 * 9999 * 16667 := mul_le3 hg h1 (by omega)
  have b3 : nw 2 * w ≤ 9999 * 300 := Nat.mul_le_mul h2 hw
  unfold wth
  generalize g * nw 0 = a at *
  generalize g * nw 1 * (x / 60) = b at *
  generalize nw 2 * w = c at *
  have e : (lN a - lN b - lN c) = Int64.ofInt ((a : Int) - b - c) := by
    rw [lN_ofInt, lN_ofInt, lN_ofInt, Int64.ofInt_sub, Int64.ofInt_sub]
  have et : (lN a - lN b - lN c).toInt = (a : Int) - b - c := by
    rw [e, Int64.toInt_ofInt_of_le (by omega) (by omega)]
  have e0 : (lN 0).toInt = 0 := by decide +kernel
  by_cases h : (a : Int) - b - c < 0
  · rw [if_pos (Int64.lt_iff_toInt_lt.mpr (by rw [et, e0]; exact h))]
    rw [show a - b - c = 0 by omega]
  · rw [if_neg (fun q => h (by have := Int64.lt_iff_toInt_lt.mp q; rw [et, e0] at this; exact this))]
    rw [e, lN_ofInt]
    congr 1
    omega
end SPEC1B
end
section
/-! SPEC2: what the class's large methods compute -/
section SPEC2
def sfs (sec sp : Nat → Nat) (stt : Nat → Option Nat) (b : Nat) : Nat := sec b - (stt (sp b)).getD 0
abbrev TkS : Type := (Nat → Nat) × (Nat → Bool) × (Nat → Option Nat) × (Nat → Nat) × (Nat → Nat) × (Nat → Nat)
/-- one submission b of the person x is taken -/
def tkF (gr nw sp sq sec : Nat → Nat) (rt : Nat → Bool) (stt : Nat → Option Nat) (x b : Nat) (u : TkS) : TkS :=
  if u.2.1 (sq b) = true then u
  else if rt b = false then (va_up u.1 (sq b) (u.1 (sq b) + 1), u.2)
  else if nw 3 < sfs sec sp stt b then (u.1, va_up u.2.1 (sq b) true, u.2.2)
  else (u.1, va_up u.2.1 (sq b) true, va_up u.2.2.1 (sq b) (some (wth nw (gr (sq b)) (sfs sec sp stt b) (u.1 (sq b)))), va_up u.2.2.2.1 x (u.2.2.2.1 x + wth nw (gr (sq b)) (sfs sec sp stt b) (u.1 (sq b))), va_up u.2.2.2.2.1 x (u.2.2.2.2.1 x + sfs sec sp stt b), va_up u.2.2.2.2.2 x (u.2.2.2.2.2 x + 1))
def woG (gr nw sp sq sec it : Nat → Nat) (rt : Nat → Bool) (stt : Nat → Option Nat) (x : Nat) : Nat → Nat → TkS → TkS
  | 0, _, u => u
  | n + 1, i, u => woG gr nw sp sq sec it rt stt x n (i + 1) (if sp (it i) = x then tkF gr nw sp sq sec rt stt x (it i) u else u)
def woF (gr nw sp sq sec it : Nat → Nat) (rt : Nat → Bool) (stt : Nat → Option Nat) (ns x : Nat) (u : TkS) : TkS :=
  woG gr nw sp sq sec it rt stt x ns 0 (upK 0 20 u.1, upK false 20 u.2.1, upK none 20 u.2.2.1, va_up u.2.2.2.1 x 0, va_up u.2.2.2.2.1 x 0, va_up u.2.2.2.2.2 x 0)
def waF (gr nw sp sq sec it : Nat → Nat) (rt : Nat → Bool) (stt : Nat → Option Nat) (ns : Nat) : Nat → TkS → TkS
  | 0, u => u
  | k + 1, u => woF gr nw sp sq sec it rt stt ns k (waF gr nw sp sq sec it rt stt ns k u)
/-- what each method may rely on, of puzzles, persons, submissions and rules -/
def IS (np ne ns : Nat) (gr nw sp sq sec it ans : Nat → Nat) (stt : Nat → Option Nat) : Prop :=
  np ≤ 20 ∧ ne ≤ 20 ∧ ns ≤ 300 ∧ (∀ i, i < 20 → gr i ≤ 100) ∧ (∀ i, i < 5 → nw i ≤ 9999) ∧ (∀ i, i < ns → sp i < ne) ∧ (∀ i, i < ns → sq i < np) ∧ (∀ i, i < 300 → sec i ≤ 1000000) ∧ (∀ i, i < ns → it i < ns) ∧ (∀ i, i < 300 → ans i < 2 ^ 31) ∧ (∀ i, i < ns → ∃ z, stt (sp i) = some z ∧ z ≤ sec i) ∧ (∀ i z, i < 20 → stt i = some z → z ≤ 1000000) ∧ (∀ i, i < 300 → sp i < 20 ∧ sq i < 20)
theorem tk_wr {gr nw sp sq sec : Nat → Nat} {rt : Nat → Bool} {stt : Nat → Option Nat} {x b : Nat} {u : TkS} {k : Nat} (h : ∀ j, j < 20 → u.1 j ≤ k) : ∀ j, j < 20 → (tkF gr nw sp sq sec rt stt x b u).1 j ≤ k + 1 := by
  intro j hj
  have h1 := h j hj
  unfold tkF
  split
  · omega
  · split
    · simp only [va_up]
      split
      · subst_vars
        omega
      · omega
    · split <;> (dsimp only; omega)
def inG (tw : Nat → Option Nat) (sec : Nat → Nat) (a k : Nat) : Nat → Nat → Nat → Option Nat × Nat
  | 0, _, c => (none, c)
  | n + 1, b, c => match tw b with
    | none => inG tw sec a k n (b + 1) c
    | some o => if 60 < dst (sec a) (sec o) then inG tw sec a k n (b + 1) c else if c = k then (some o, c) else inG tw sec a k n (b + 1) (c + 1)
def suG (sp sq sec ans : Nat → Nat) (rt : Nat → Bool) (ne ns k : Nat) : Nat → Nat → Nat → (Nat → Option Nat) → Option (Nat × Nat) × (Nat → Option Nat)
  | 0, _, _, tw => (none, tw)
  | n + 1, a, c, tw => if rt a = true then suG sp sq sec ans rt ne ns k n (a + 1) c tw else
    match inG (twG sp sq ans rt a ns 0 (upK none 20 tw)) sec a k (ne - (sp a + 1)) (sp a + 1) c with
    | (some o, _) => (some (a, o), twG sp sq ans rt a ns 0 (upK none 20 tw))
    | (none, c') => suG sp sq sec ans rt ne ns k n (a + 1) c' (twG sp sq ans rt a ns 0 (upK none 20 tw))
def letF (u : Nat) : Option Nat := if u = 80 then some 0 else if u = 70 then some 1 else if u = 87 then some 2 else if u = 68 then some 3 else if u = 84 then some 4 else none
def eoF (un : Nat → Nat) (tl f : Nat) : Nat := eodG un tl (f + 1) 5 (f + 1)
def nuF (un : Nat → Nat) (tl f : Nat) : Nat := numG un (eoF un tl f - (f + 1)) (f + 1) 0
/-- a text of rules, read from place 'a' on: how many, or (none) the place of refusal; what was told so far -/
def rdG (un : Nat → Nat) (tl : Nat) : Nat → Nat → Nat → (Nat → Nat) → (Nat ⊕ Nat) × (Nat → Nat)
  | 0, c, _, td => (.inl c, td)
  | n + 1, c, a, td => if tl ≤ a then (.inl c, td) else
    match letF (un a) with
    | none => (.inr a, td)
    | some z =>
      if eoF un tl a = a + 1 then (.inr (a + 1), td)
      else if z = 4 ∧ 1 < nuF un tl a then (.inr (eoF un tl a - 1), td)
      else if tl ≤ eoF un tl a ∨ un (eoF un tl a) ≠ 59 then (.inr (eoF un tl a), td)
      else rdG un tl n (c + 1) (eoF un tl a + 1) (va_up td z (nuF un tl a))
end SPEC2
end
section
abbrev w_Puz (h : Nat → Nat) (cI cZ cJ : ClassId) (np : Nat) (tot : Nat) (gr : Nat → Nat) (fa : Nat → Nat) (re : Nat → Bool) (ss : Nat → Nat) (sc : Nat → Nat) : va_W := [(h 5, .inr (1, [.ref (h 6), .int (nI np), .ref (h 7), .ref (h 8), .int (nI tot), .ref (h 9), .ref (h 10)])), (h 6, .inl (cI, 20, .inl (aE nI gr))), (h 7, .inl (cI, 20, .inl (aE nI fa))), (h 8, .inl (cZ, 1001, .inl (aE bI re))), (h 9, .inl (cI, 6, .inl (aE nI ss))), (h 10, .inl (cI, 6, .inl (aE nI sc)))]
abbrev w_Per (h : Nat → Nat) (cI cZ cJ : ClassId) (ne : Nat) (stt : Nat → Option Nat) (sco : Nat → Nat) (tim : Nat → Nat) (cnt : Nat → Nat) : va_W := [(h 11, .inr (0, [.ref (h 12), .ref (h 13), .ref (h 14), .ref (h 15), .int (nI ne)])), (h 12, .inl (cI, 20, .inl (aE oI stt))), (h 13, .inl (cJ, 20, .inr (.inl (aF lN sco)))), (h 14, .inl (cJ, 20, .inr (.inl (aF lN tim)))), (h 15, .inl (cI, 20, .inl (aE nI cnt)))]
abbrev w_Sub (h : Nat → Nat) (cI cZ cJ : ClassId) (ns : Nat) (sp : Nat → Nat) (sq : Nat → Nat) (sec : Nat → Nat) (rt : Nat → Bool) (it : Nat → Nat) (ans : Nat → Nat) : va_W := [(h 16, .inr (4, [.ref (h 17), .ref (h 18), .ref (h 19), .ref (h 20), .ref (h 21), .int (nI ns), .ref (h 22)])), (h 17, .inl (cI, 300, .inl (aE nI sp))), (h 18, .inl (cI, 300, .inl (aE nI sq))), (h 19, .inl (cI, 300, .inl (aE nI sec))), (h 20, .inl (cZ, 300, .inl (aE bI rt))), (h 21, .inl (cI, 300, .inl (aE nI it))), (h 22, .inl (cI, 300, .inl (aE nI ans)))]
abbrev w_SubT (h : Nat → Nat) (cI cZ cJ : ClassId) (tw : Nat → Option Nat) (ns : Nat) (sp : Nat → Nat) (sq : Nat → Nat) (sec : Nat → Nat) (rt : Nat → Bool) (it : Nat → Nat) (ans : Nat → Nat) : va_W := [(h 4, .inl (cI, 20, .inl (aE oI tw))), (h 16, .inr (4, [.ref (h 17), .ref (h 18), .ref (h 19), .ref (h 20), .ref (h 21), .int (nI ns), .ref (h 22)])), (h 17, .inl (cI, 300, .inl (aE nI sp))), (h 18, .inl (cI, 300, .inl (aE nI sq))), (h 19, .inl (cI, 300, .inl (aE nI sec))), (h 20, .inl (cZ, 300, .inl (aE bI rt))), (h 21, .inl (cI, 300, .inl (aE nI it))), (h 22, .inl (cI, 300, .inl (aE nI ans)))]
abbrev w_Txt (h : Nat → Nat) (cI cZ cJ : ClassId) (tl : Nat) (un : Nat → Nat) : va_W := [(h 23, .inr (2, [.ref (h 24), .int (nI tl)])), (h 24, .inl (cI, 100, .inl (aE nI un)))]
abbrev w_Rul (h : Nat → Nat) (cI cZ cJ : ClassId) (nw : Nat → Nat) (td : Nat → Nat) : va_W := [(h 25, .inr (3, [.ref (h 26), .ref (h 27)])), (h 26, .inl (cI, 5, .inl (aE nI nw))), (h 27, .inl (cI, 5, .inl (aE nI td)))]
abbrev w_TR (h : Nat → Nat) (cI cZ cJ : ClassId) (tl : Nat) (un : Nat → Nat) (nw : Nat → Nat) (td : Nat → Nat) : va_W := [(h 23, .inr (2, [.ref (h 24), .int (nI tl)])), (h 24, .inl (cI, 100, .inl (aE nI un))), (h 25, .inr (3, [.ref (h 26), .ref (h 27)])), (h 26, .inl (cI, 5, .inl (aE nI nw))), (h 27, .inl (cI, 5, .inl (aE nI td)))]
abbrev w_All (h : Nat → Nat) (cI cZ cJ : ClassId) (wr : Nat → Nat) (se : Nat → Bool) (ga : Nat → Option Nat) (tw : Nat → Option Nat) (np : Nat) (tot : Nat) (gr : Nat → Nat) (fa : Nat → Nat) (re : Nat → Bool) (ss : Nat → Nat) (sc : Nat → Nat) (ne : Nat) (stt : Nat → Option Nat) (sco : Nat → Nat) (tim : Nat → Nat) (cnt : Nat → Nat) (ns : Nat) (sp : Nat → Nat) (sq : Nat → Nat) (sec : Nat → Nat) (rt : Nat → Bool) (it : Nat → Nat) (ans : Nat → Nat) (tl : Nat) (un : Nat → Nat) (nw : Nat → Nat) (td : Nat → Nat) : va_W := [(h 0, .inr (5, [.ref (h 5), .ref (h 11), .ref (h 16), .ref (h 23), .ref (h 25), .ref (h 1), .ref (h 2), .ref (h 3), .ref (h 4)])), (h 1, .inl (cI, 20, .inl (aE nI wr))), (h 2, .inl (cZ, 20, .inl (aE bI se))), (h 3, .inl (cJ, 20, .inr (.inl (aF oL ga)))), (h 4, .inl (cI, 20, .inl (aE oI tw))), (h 5, .inr (1, [.ref (h 6), .int (nI np), .ref (h 7), .ref (h 8), .int (nI tot), .ref (h 9), .ref (h 10)])), (h 6, .inl (cI, 20, .inl (aE nI gr))), (h 7, .inl (cI, 20, .inl (aE nI fa))), (h 8, .inl (cZ, 1001, .inl (aE bI re))), (h 9, .inl (cI, 6, .inl (aE nI ss))), (h 10, .inl (cI, 6, .inl (aE nI sc))), (h 11, .inr (0, [.ref (h 12), .ref (h 13), .ref (h 14), .ref (h 15), .int (nI ne)])), (h 12, .inl (cI, 20, .inl (aE oI stt))), (h 13, .inl (cJ, 20, .inr (.inl (aF lN sco)))), (h 14, .inl (cJ, 20, .inr (.inl (aF lN tim)))), (h 15, .inl (cI, 20, .inl (aE nI cnt))), (h 16, .inr (4, [.ref (h 17), .ref (h 18), .ref (h 19), .ref (h 20), .ref (h 21), .int (nI ns), .ref (h 22)])), (h 17, .inl (cI, 300, .inl (aE nI sp))), (h 18, .inl (cI, 300, .inl (aE nI sq))), (h 19, .inl (cI, 300, .inl (aE nI sec))), (h 20, .inl (cZ, 300, .inl (aE bI rt))), (h 21, .inl (cI, 300, .inl (aE nI it))), (h 22, .inl (cI, 300, .inl (aE nI ans))), (h 23, .inr (2, [.ref (h 24), .int (nI tl)])), (h 24, .inl (cI, 100, .inl (aE nI un))), (h 25, .inr (3, [.ref (h 26), .ref (h 27)])), (h 26, .inl (cI, 5, .inl (aE nI nw))), (h 27, .inl (cI, 5, .inl (aE nI td)))]
abbrev w_Nil (h : Nat → Nat) (cI cZ cJ : ClassId)  : va_W := []
end
section
/-! BASE3: System.arraycopy of a whole row of numbers; some numbers -/
section BASE3
theorem inB_nI {i n : Nat} (h : i < n) (hn : n ≤ 300) : inB (nI i) n = true := inB_t (by rw [i_T (by omega)]; omega)
theorem cpy_aE (n : Nat) (f g : Nat → Nat) : va_cpy (aE nI f) (aE nI g) 0 0 n = aE nI (cpyN n f g) := by
  funext k
  simp only [va_cpy, aE, cpyN]
  by_cases h : k < n
  · rw [if_pos (by omega), if_pos h]; simp
  · rw [if_neg (by omega), if_neg h]
variable {p : Program} {l : Launch} {e : Env} {R : Room} {s : State} {m : MethodId} {args : Array Value} {below : List Frame} {meth : Method} {c : Code} {H : Heap} {locs : List Loc} {cells slots : Nat} {Q : State → Prop}
variable {cc : ByteArray} {nL pc : Nat} {ls : Array Slot} {rest : List Value} {own : String} {G : va_G} {A : Nat → Prop} {a a0 : Nat} {ws : va_W} {H0 : Heap}
theorem R_copy {index n : Nat} {f g : Nat → Nat} {cI cZ cJ : ClassId} (X : Fx p m c cc nL s args own G (tyL cI cZ cJ) A) (hW : Wr G A H0 ws H locs) (h1 : Cond.methodLink own index arraycopyName ∈ TBL) (h2 : Cond.native arraycopyName ∈ TBL) (h3 : Cond.static arraycopyName ∈ TBL) (h4 : Cond.initialized "java/lang/System" ∈ TBL) (hml : c.maxLocals = ls.size) (q0 q1 : Nat) (ha0 : ws[q0]? = some (a0, .inl (cI, n, .inl (aE nI f)))) (ha1 : ws[q1]? = some (a, .inl (cI, n, .inl (aE nI g)))) (hn : n < 2 ^ 31) (hf : 1 ≤ R.frames) (hlo : (rest.map fun v => v.category).sum + (nativeFrameWords "java/lang/System" "arraycopy" 5 + 11) ≤ R.locals) (hdg : decode cc pc = .ok (.invokestatic index, 3))
    (kk : ∀ (H1 : Heap) (locs1 : List Loc), Wr G A H0 (ws.set q1 (a, .inl (cI, n, .inl (aE nI (cpyN n f g))))) H1 locs1 → W p l e R s m args below meth c H1 locs1 cells slots Q (F0 m (pc + 3) ls rest)) : W p l e R s m args below meth c H locs cells slots Q (F0 m pc ls (.int (nI n) :: .int (nI 0) :: .ref a :: .int (nI 0) :: .ref a0 :: rest)) := by
  have ht := X.1.2.2.2.2
  have z0 : (nI 0).toNatClampNeg = 0 := nI_clamp (by decide)
  have zn : (nI n).toNatClampNeg = n := nI_clamp hn
  refine va_copyi X.1.1 X.1.2.1 hml X.1.2.2.2.1 (ht _ h1) (ht _ h2) (ht _ h3) (ht _ h4) X.2.1 hW.1 hW.2.1 hW.2.2 q0 q1 0 0 ha0 ha1 rfl rfl rfl (nI_pos (by decide)) (nI_pos (by decide)) (nI_pos hn) (by rw [z0, zn]; omega) (by rw [z0, zn]; omega) (fun i _ => rfl) hf hlo hdg (fun H1 locs1 p1 p2 p3 => kk H1 locs1 ?_)
  rw [z0, zn, cpy_aE] at p1 p2
  exact ⟨p1, p2, p3⟩
end BASE3
end
section
/-! SPEC3: pairs told, bounds of twins -/
section SPEC3
def tlF (sp sq sec : Nat → Nat) (a b w : Nat) : Nat := if w = 0 then sp a else if w = 1 then sp b else if w = 2 then sq a else dst (sec a) (sec b)
theorem twG_lt (sp sq ans : Nat → Nat) (rt : Nat → Bool) (a : Nat) : ∀ (n i : Nat) (tw : Nat → Option Nat) (N : Nat), i + n ≤ N → (∀ x z, x < 20 → tw x = some z → z < N) → ∀ x z, x < 20 → twG sp sq ans rt a n i tw x = some z → z < N
  | 0, _, _, _, _, h => h
  | n + 1, i, tw, N, hN, h => by
    intro x z hx hz
    unfold twG at hz
    refine twG_lt sp sq ans rt a n (i + 1) _ N (by omega) ?_ x z hx hz
    intro x' z' hx' hz'
    split at hz'
    · by_cases q : x' = sp i
      · subst q; rw [va_up_self] at hz'; cases hz'; omega
      · rw [va_up_ne _ _ q] at hz'; exact h x' z' hx' hz'
    · exact h x' z' hx' hz'
theorem dst_le {x y : Nat} (hx : x ≤ 1000000) (hy : y ≤ 1000000) : dst x y ≤ 1000000 := by unfold dst; split <;> omega
theorem tk_eta (u : TkS) : (u.1, u.2.1, u.2.2.1, u.2.2.2.1, u.2.2.2.2.1, u.2.2.2.2.2) = u := rfl
end SPEC3
end
section
/-! SPEC4: what the reference's methods compute -/
section SPEC4
def ahM (sec : Nat → Nat) (a b : Nat) : Bool := decide (sec a < sec b ∨ (sec a = sec b ∧ a < b))
def ofM (sp sq : Nat → Nat) (x y r : Nat) : Bool := decide (sp r = x ∧ sq r = y)
def bsG (sp sq sec : Nat → Nat) (rt : Nat → Bool) (x y : Nat) : Nat → Nat → Option Nat → Option Nat
  | 0, _, b => b
  | n + 1, i, b => bsG sp sq sec rt x y n (i + 1) (if ofM sp sq x y i = true ∧ rt i = true ∧ (b = none ∨ ahM sec i (b.getD 0) = true) then some i else b)
theorem bsG_lt (sp sq sec : Nat → Nat) (rt : Nat → Bool) (x y : Nat) : ∀ (n i : Nat) (b : Option Nat) (N : Nat), i + n ≤ N → (∀ z, b = some z → z < N) → ∀ z, bsG sp sq sec rt x y n i b = some z → z < N
  | 0, _, _, _, _, h => h
  | n + 1, i, b, N, hN, h => by
    intro z hz
    unfold bsG at hz
    refine bsG_lt sp sq sec rt x y n (i + 1) _ N (by omega) ?_ z hz
    intro w hw
    split at hw
    · cases hw; omega
    · exact h w hw
def ctF (nw sp sq sec : Nat → Nat) (rt : Nat → Bool) (stt : Nat → Option Nat) (ns x y : Nat) : Option Nat :=
  match bsG sp sq sec rt x y ns 0 none with
  | none => none
  | some b => if nw 3 < sfs sec sp stt b then none else some b
theorem ctF_lt {nw sp sq sec : Nat → Nat} {rt : Nat → Bool} {stt : Nat → Option Nat} {ns x y c : Nat} (h : ctF nw sp sq sec rt stt ns x y = some c) : c < ns := by
  unfold ctF at h
  split at h
  · cases h
  · rename_i b hb
    split at h
    · cases h
    · cases h
      exact bsG_lt sp sq sec rt x y ns 0 none ns (by omega) (fun z hz => by cases hz) _ hb
def wrM (sp sq sec : Nat → Nat) (rt : Nat → Bool) (x y c r : Nat) : Bool := decide (ofM sp sq x y r = true ∧ rt r = false ∧ ahM sec r c = true)
def ptV (gr nw sp sq sec : Nat → Nat) (rt : Nat → Bool) (stt : Nat → Option Nat) (ns x y c : Nat) : Nat := wth nw (gr y) (sfs sec sp stt c) (cntF (wrM sp sq sec rt x y c) ns)
def sumF (f : Nat → Nat) : Nat → Nat
  | 0 => 0
  | k + 1 => sumF f k + f k
def scM (gr nw sp sq sec : Nat → Nat) (rt : Nat → Bool) (stt : Nat → Option Nat) (ns x y : Nat) : Nat := match ctF nw sp sq sec rt stt ns x y with
  | none => 0
  | some c => ptV gr nw sp sq sec rt stt ns x y c
def tiM (nw sp sq sec : Nat → Nat) (rt : Nat → Bool) (stt : Nat → Option Nat) (ns x y : Nat) : Nat := match ctF nw sp sq sec rt stt ns x y with
  | none => 0
  | some c => sfs sec sp stt c
def hsM (nw sp sq sec : Nat → Nat) (rt : Nat → Bool) (stt : Nat → Option Nat) (ns x y : Nat) : Bool := (ctF nw sp sq sec rt stt ns x y).isSome
def upG {α : Type} (g : Nat → α) : Nat → (Nat → α) → Nat → α
  | 0, f => f
  | k + 1, f => va_up (upG g k f) k (g k)
theorem upG_lt {α : Type} (g : Nat → α) : ∀ (n : Nat) (f : Nat → α) (i : Nat), i < n → upG g n f i = g i
  | 0, _, _, h => absurd h (Nat.not_lt_zero _)
  | n + 1, f, i, h => by
    unfold upG va_up
    by_cases q : i = n
    · rw [if_pos q, q]
    · rw [if_neg q]; exact upG_lt g n f i (by omega)
theorem upG_ge {α : Type} (g : Nat → α) : ∀ (n : Nat) (f : Nat → α) (i : Nat), n ≤ i → upG g n f i = f i
  | 0, _, _, _ => rfl
  | n + 1, f, i, h => by
    unfold upG va_up
    rw [if_neg (by omega)]; exact upG_ge g n f i (by omega)
abbrev scA (gr nw sp sq sec : Nat → Nat) (rt : Nat → Bool) (stt : Nat → Option Nat) (ns np x : Nat) : Nat := sumF (scM gr nw sp sq sec rt stt ns x) np
abbrev tiA (nw sp sq sec : Nat → Nat) (rt : Nat → Bool) (stt : Nat → Option Nat) (ns np x : Nat) : Nat := sumF (tiM nw sp sq sec rt stt ns x) np
def hmM (sco tim : Nat → Nat) (ne : Nat) (t : Bool) (x : Nat) : Nat := cntF (fun q => ahd sco tim t q x || (decide (q < x) && alk sco tim t q x)) ne
def fwM (sp sq ans : Nat → Nat) (rt : Nat → Bool) (x y w r : Nat) : Bool := decide (ofM sp sq x y r = true ∧ rt r = false ∧ ans r = w)
def imG (fw : Nat → Option Nat) (sec : Nat → Nat) (a k : Nat) : Nat → Nat → Nat → Option (Nat × Nat) × Nat
  | 0, _, c => (none, c)
  | n + 1, b, c => match fw b with
    | none => imG fw sec a k n (b + 1) c
    | some o => if 60 < dst (sec a) (sec o) then imG fw sec a k n (b + 1) c else if c = k then (some (b, o), c) else imG fw sec a k n (b + 1) (c + 1)
abbrev fwF (sp sq ans : Nat → Nat) (rt : Nat → Bool) (ns a b : Nat) : Option Nat := if rt a = true then none else fstG (fwM sp sq ans rt b (sq a) (ans a)) ns 0
def smG (sp sq sec ans : Nat → Nat) (rt : Nat → Bool) (ne ns k : Nat) : Nat → Nat → Nat → Option (Nat × Nat × Nat)
  | 0, _, _ => none
  | n + 1, a, c => match imG (fwF sp sq ans rt ns a) sec a k (ne - (sp a + 1)) (sp a + 1) c with
    | (some q, _) => some (a, q)
    | (none, c') => smG sp sq sec ans rt ne ns k n (a + 1) c'
def tlM (sp sq : Nat → Nat) (a b f w : Nat) : Nat := if w = 0 then sp a else if w = 1 then b else if w = 2 then sq a else f
theorem fstG_lt (P : Nat → Bool) : ∀ (n i : Nat) (z : Nat), fstG P n i = some z → i ≤ z ∧ z < i + n
  | 0, _, _, h => by cases h
  | n + 1, i, z, h => by
    unfold fstG at h
    split at h
    · cases h; omega
    · have := fstG_lt P n (i + 1) z h; omega
def nxG (gr : Nat → Nat) (ip : Nat → Bool) : Nat → Nat → Option Nat → Option Nat
  | 0, _, b => b
  | n + 1, k, b => nxG gr ip n (k + 1) (if ip k = false ∧ (b = none ∨ gr (b.getD 0) < gr k) then some k else b)
theorem nxG_lt (gr : Nat → Nat) (ip : Nat → Bool) : ∀ (n i : Nat) (b : Option Nat) (N : Nat), i + n ≤ N → (∀ z, b = some z → z < N ∧ ip z = false) → ∀ z, nxG gr ip n i b = some z → z < N ∧ ip z = false
  | 0, _, _, _, _, h => h
  | n + 1, i, b, N, hN, h => by
    intro z hz
    unfold nxG at hz
    refine nxG_lt gr ip n (i + 1) _ N (by omega) ?_ z hz
    intro w hw
    split at hw
    · rename_i hc; cases hw; exact ⟨by omega, hc.1⟩
    · exact h w hw
theorem nxG_some (gr : Nat → Nat) (ip : Nat → Bool) : ∀ (n i : Nat) (b : Option Nat), (b ≠ none ∨ ∃ k, i ≤ k ∧ k < i + n ∧ ip k = false) → nxG gr ip n i b ≠ none
  | 0, i, b, h => by
    rcases h with h | ⟨k, h1, h2, _⟩
    · exact h
    · omega
  | n + 1, i, b, h => by
    unfold nxG
    apply nxG_some gr ip n (i + 1)
    split
    · left; simp
    · rename_i hc
      rcases h with h | ⟨k, h1, h2, h3⟩
      · left; exact h
      · by_cases q : k = i
        · subst q
          left
          intro hb
          exact hc ⟨h3, Or.inl hb⟩
        · right; exact ⟨k, by omega, by omega, h3⟩
abbrev nxF (gr : Nat → Nat) (ip : Nat → Bool) (np : Nat) : Option Nat := nxG gr ip np 0 none
def evG (gr : Nat → Nat) (np sets q : Nat) : Nat → Nat → (Nat → Nat) → (Nat → Nat) → (Nat → Bool) → Nat × (Nat → Nat) × (Nat → Nat) × (Nat → Bool)
  | 0, t, ss, sc, ip => (t, ss, sc, ip)
  | n + 1, t, ss, sc, ip => if ip q = true then (t, ss, sc, ip) else
    evG gr np sets q n (lsF ss sc sets) (va_up ss (lsF ss sc sets) (ss (lsF ss sc sets) + gr ((nxF gr ip np).getD 0))) (va_up sc (lsF ss sc sets) (sc (lsF ss sc sets) + 1)) (va_up ip ((nxF gr ip np).getD 0) true)
theorem cnt_put (ip : Nat → Bool) (k : Nat) (hk : ip k = false) : ∀ n, k < n → cntF (fun j => !(va_up ip k true j)) n + 1 = cntF (fun j => !(ip j)) n
  | 0, h => absurd h (Nat.not_lt_zero _)
  | n + 1, h => by
    unfold cntF
    by_cases q : k = n
    · subst q
      have e : ∀ m, m ≤ k → cntF (fun j => !(va_up ip k true j)) m = cntF (fun j => !(ip j)) m := by
        intro m
        induction m with
        | zero => intro _; rfl
        | succ m ih =>
          intro hm
          unfold cntF
          rw [ih (by omega), va_up_ne _ _ (by omega)]
      rw [e k (Nat.le_refl k), va_up_self, hk]
      simp
    · have := cnt_put ip k hk n (by omega)
      rw [va_up_ne _ _ (fun e => q e.symm)]
      omega
theorem cnt_ip {ip : Nat → Bool} {k n : Nat} (hk : ip k = false) (h : k < n) : 0 < cntF (fun j => !(ip j)) n := by
  have := cnt_put ip k hk n h
  omega
def cbG (g : Nat) : Nat → (Nat → Bool) → Nat → Bool
  | 0, f => f
  | v + 1, f => if v + 1 < g then f else cbG g v (va_up f (v + 1) (f (v + 1) || f (v + 1 - g)))
def cbA (gr : Nat → Nat) : Nat → (Nat → Bool) → Nat → Bool
  | 0, f => f
  | k + 1, f => cbG (gr k) 2000 (cbA gr k f)
theorem cbG_0 (g : Nat) (hg : 1 ≤ g) : ∀ (v : Nat) (f : Nat → Bool), cbG g v f 0 = f 0
  | 0, _ => rfl
  | v + 1, f => by
    unfold cbG
    split
    · rfl
    · rw [cbG_0 g hg v, va_up_ne _ _ (by omega)]
theorem cbA_0 (gr : Nat → Nat) : ∀ (n : Nat) (f : Nat → Bool), (∀ i, i < n → 1 ≤ gr i) → cbA gr n f 0 = f 0
  | 0, _, _ => rfl
  | n + 1, f, h => by
    unfold cbA
    rw [cbG_0 _ (h n (by omega)), cbA_0 gr n f (fun i hi => h i (by omega))]
theorem sumF_le (f : Nat → Nat) (m : Nat) : ∀ n, (∀ i, i < n → f i ≤ m) → sumF f n ≤ m * n
  | 0, _ => by simp [sumF]
  | n + 1, h => by
    have h1 := sumF_le f m n (fun i hi => h i (by omega))
    have h2 := h n (by omega)
    unfold sumF
    rw [Nat.mul_succ]
    omega
def rdR (r : Nat ⊕ Nat) : Int32 := match r with
  | .inl c => nI c
  | .inr p => (-1) - nI p
/-- one rule, read from place f on: the place of refusal, or none -/
def rrB (un : Nat → Nat) (tl f : Nat) : Option Nat := match letF (un f) with
  | none => some f
  | some z => if eoF un tl f = f + 1 then some (f + 1) else if z = 4 ∧ 1 < nuF un tl f then some (eoF un tl f - 1) else if tl ≤ eoF un tl f ∨ un (eoF un tl f) ≠ 59 then some (eoF un tl f) else none
def rrT (un : Nat → Nat) (tl f : Nat) (td : Nat → Nat) : Nat → Nat := match rrB un tl f with
  | some _ => td
  | none => va_up td ((letF (un f)).getD 0) (nuF un tl f)
theorem rdG_step (un : Nat → Nat) (tl n c a : Nat) (td : Nat → Nat) (h : a < tl) : rdG un tl (n + 1) c a td = match rrB un tl a with
  | some p => (.inr p, td)
  | none => rdG un tl n (c + 1) (eoF un tl a + 1) (rrT un tl a td) := by
  conv => lhs; rw [rdG]
  unfold rrT rrB
  rw [if_neg (by omega)]
  cases hl : letF (un a) with
  | none => rfl
  | some z =>
    dsimp only
    by_cases h1 : eoF un tl a = a + 1
    · simp only [if_pos h1]
    · simp only [if_neg h1]
      by_cases h2 : z = 4 ∧ 1 < nuF un tl a
      · simp only [if_pos h2]
      · simp only [if_neg h2]
        by_cases h3 : tl ≤ eoF un tl a ∨ un (eoF un tl a) ≠ 59
        · simp only [if_pos h3]
        · simp only [if_neg h3]; rfl
theorem eod_ge (un : Nat → Nat) (tl fr : Nat) : ∀ n e, e ≤ eodG un tl fr n e
  | 0, _ => Nat.le_refl _
  | n + 1, e => by
    unfold eodG
    split
    · have := eod_ge un tl fr n (e + 1); omega
    · exact Nat.le_refl _
theorem eod_le (un : Nat → Nat) (tl fr : Nat) : ∀ n e, e ≤ fr + 4 → eodG un tl fr n e ≤ fr + 4
  | 0, _, h => h
  | n + 1, e, h => by
    unfold eodG
    split
    · rename_i q; exact eod_le un tl fr n (e + 1) (by omega)
    · exact h
theorem eod_dig (un : Nat → Nat) (tl fr : Nat) : ∀ n e i, e ≤ i → i < eodG un tl fr n e → i < tl ∧ 48 ≤ un i ∧ un i ≤ 57
  | 0, e, i, h1, h2 => by unfold eodG at h2; omega
  | n + 1, e, i, h1, h2 => by
    unfold eodG at h2
    split at h2
    · rename_i q
      by_cases z : i = e
      · subst z; omega
      · exact eod_dig un tl fr n (e + 1) i (by omega) h2
    · omega
theorem num_snoc (un : Nat → Nat) : ∀ n i v, numG un (n + 1) i v = numG un n i v * 10 + (un (i + n) - 48)
  | 0, i, v => rfl
  | n + 1, i, v => by
    show numG un (n + 1) (i + 1) (v * 10 + (un i - 48)) = numG un n (i + 1) (v * 10 + (un i - 48)) * 10 + _
    rw [num_snoc un n (i + 1), show i + 1 + n = i + (n + 1) by omega]
theorem let_lt {u z : Nat} (h : letF u = some z) : z < 5 := by
  unfold letF at h
  split at h
  · cases h; omega
  · split at h
    · cases h; omega
    · split at h
      · cases h; omega
      · split at h
        · cases h; omega
        · split at h
          · cases h; omega
          · cases h
theorem num_le (un : Nat → Nat) : ∀ n i, (∀ j, i ≤ j → j < i + n → un j ≤ 57) → numG un n i 0 < 10 ^ n
  | 0, _, _ => Nat.zero_lt_one
  | n + 1, i, h => by
    rw [num_snoc]
    have h1 := num_le un n i (fun j a b => h j a (by omega))
    have h2 := h (i + n) (by omega) (by omega)
    rw [Nat.pow_succ]
    omega
theorem nuF_le {un : Nat → Nat} {tl f : Nat} : nuF un tl f ≤ 9999 := by
  have h1 := eod_ge un tl (f + 1) 5 (f + 1)
  have h2 := eod_le un tl (f + 1) 5 (f + 1) (by omega)
  have h3 := num_le un (eoF un tl f - (f + 1)) (f + 1) (fun j a b => (eod_dig un tl (f + 1) 5 (f + 1) j a (by unfold eoF at b; omega)).2.2)
  have h4 : eoF un tl f - (f + 1) ≤ 4 := by unfold eoF; omega
  have h5 : 10 ^ (eoF un tl f - (f + 1)) ≤ 10 ^ 4 := Nat.pow_le_pow_right (by decide) h4
  unfold nuF
  omega
theorem wth_ge {nw : Nat → Nat} {g x w : Nat} (hg : g ≤ 100) (hx : x ≤ 1000000) (hw : w ≤ 300) (h0 : nw 0 ≤ 9999) (h1 : nw 1 ≤ 9999) (h2 : nw 2 ≤ 9999) : (lN (g * nw 0) - lN (g * nw 1 * (x / 60)) - lN (nw 2 * w)).toInt = ((g * nw 0 : Nat) : Int) - (g * nw 1 * (x / 60) : Nat) - (nw 2 * w : Nat) := by
  have b1 : g * nw 0 ≤ 100 * 9999 := Nat.mul_le_mul hg h0
  have b2 : g * nw 1 * (x / 60) ≤ 100 * 9999 * 16667 := mul_le3 hg h1 (by omega)
  have b3 : nw 2 * w ≤ 9999 * 300 := Nat.mul_le_mul h2 hw
  generalize g * nw 0 = a at *
  generalize g * nw 1 * (x / 60) = b at *
  generalize nw 2 * w = c at *
  rw [show (lN a - lN b - lN c) = Int64.ofInt ((a : Int) - b - c) by rw [lN_ofInt, lN_ofInt, lN_ofInt, Int64.ofInt_sub, Int64.ofInt_sub], Int64.toInt_ofInt_of_le (by omega) (by omega)]
theorem wth_pos {nw : Nat → Nat} {g x w : Nat} (hg : g ≤ 100) (hx : x ≤ 1000000) (hw : w ≤ 300) (h0 : nw 0 ≤ 9999) (h1 : nw 1 ≤ 9999) (h2 : nw 2 ≤ 9999) (h : 0 ≤ (lN (g * nw 0) - lN (g * nw 1 * (x / 60)) - lN (nw 2 * w)).toInt) : lN (g * nw 0) - lN (g * nw 1 * (x / 60)) - lN (nw 2 * w) = lN (wth nw g x w) := by
  have e := wth_max hg hx hw h0 h1 h2
  rw [if_neg (fun q => by have := Int64.lt_iff_toInt_lt.mp q; rw [show (lN 0).toInt = 0 by decide +kernel] at this; omega)] at e
  exact e
theorem wth_neg {nw : Nat → Nat} {g x w : Nat} (hg : g ≤ 100) (hx : x ≤ 1000000) (hw : w ≤ 300) (h0 : nw 0 ≤ 9999) (h1 : nw 1 ≤ 9999) (h2 : nw 2 ≤ 9999) (h : (lN (g * nw 0) - lN (g * nw 1 * (x / 60)) - lN (nw 2 * w)).toInt < 0) : lN 0 = lN (wth nw g x w) := by
  have e := wth_max hg hx hw h0 h1 h2
  rw [if_pos (Int64.lt_iff_toInt_lt.mpr (by rw [show (lN 0).toInt = 0 by decide +kernel]; exact h))] at e
  exact e
end SPEC4
end
