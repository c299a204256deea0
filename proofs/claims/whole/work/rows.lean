section
-- ===== PART A: goes FIRST, ahead of the names: the tables' words, and 'selects' of the private methods out of them =====
/-- a private method of a class that the tables say can be made, by its rows of tables_1 -/
def lw_okq (q : MethodName × Nat) : Prop := (q.1.cls ≠ "java/lang/invoke/MethodHandle" ∧ q.1.cls ≠ "java/lang/invoke/VarHandle") ∧ Cond.instantiable q.1.cls q.2 ∈ tables_1 ∧ Cond.privateMethod q.1 ∈ tables_1 ∧ Cond.instanceMethod q.1 ∈ tables_1
theorem lw_p0 : lw_okq (⟨"LibraryDrawer$Case", "fillPart", "(I)V"⟩, 7) := ⟨⟨by decide +kernel, by decide +kernel⟩, List.mem_of_getElem? (i := 15) (by decide +kernel), List.mem_of_getElem? (i := 93) (by decide +kernel), List.mem_of_getElem? (i := 94) (by decide +kernel)⟩
theorem lw_p1 : lw_okq (⟨"LibraryDrawer$Case", "fillRecord", "(I)V"⟩, 7) := ⟨⟨by decide +kernel, by decide +kernel⟩, List.mem_of_getElem? (i := 15) (by decide +kernel), List.mem_of_getElem? (i := 97) (by decide +kernel), List.mem_of_getElem? (i := 98) (by decide +kernel)⟩
theorem lw_p2 : lw_okq (⟨"LibraryDrawer$Case", "startTitle", "(I)V"⟩, 7) := ⟨⟨by decide +kernel, by decide +kernel⟩, List.mem_of_getElem? (i := 15) (by decide +kernel), List.mem_of_getElem? (i := 101) (by decide +kernel), List.mem_of_getElem? (i := 102) (by decide +kernel)⟩
theorem lw_p3 : lw_okq (⟨"LibraryDrawer$Case", "has", "(I)Z"⟩, 7) := ⟨⟨by decide +kernel, by decide +kernel⟩, List.mem_of_getElem? (i := 15) (by decide +kernel), List.mem_of_getElem? (i := 105) (by decide +kernel), List.mem_of_getElem? (i := 106) (by decide +kernel)⟩
theorem lw_p4 : lw_okq (⟨"LibraryDrawer$Case", "next", "(I)I"⟩, 7) := ⟨⟨by decide +kernel, by decide +kernel⟩, List.mem_of_getElem? (i := 15) (by decide +kernel), List.mem_of_getElem? (i := 109) (by decide +kernel), List.mem_of_getElem? (i := 110) (by decide +kernel)⟩
theorem lw_p5 : lw_okq (⟨"LibraryDrawer$Case", "put", "(IIII)V"⟩, 7) := ⟨⟨by decide +kernel, by decide +kernel⟩, List.mem_of_getElem? (i := 15) (by decide +kernel), List.mem_of_getElem? (i := 115) (by decide +kernel), List.mem_of_getElem? (i := 116) (by decide +kernel)⟩
theorem lw_p6 : lw_okq (⟨"LibraryDrawer$Case", "addSign", "(I)V"⟩, 7) := ⟨⟨by decide +kernel, by decide +kernel⟩, List.mem_of_getElem? (i := 15) (by decide +kernel), List.mem_of_getElem? (i := 119) (by decide +kernel), List.mem_of_getElem? (i := 120) (by decide +kernel)⟩
theorem lw_p7 : lw_okq (⟨"LibraryDrawer$Case", "repeatTitle", "(I)V"⟩, 7) := ⟨⟨by decide +kernel, by decide +kernel⟩, List.mem_of_getElem? (i := 15) (by decide +kernel), List.mem_of_getElem? (i := 127) (by decide +kernel), List.mem_of_getElem? (i := 128) (by decide +kernel)⟩
theorem lw_p8 : lw_okq (⟨"LibraryDrawer$Case", "fillFile", "(I)V"⟩, 7) := ⟨⟨by decide +kernel, by decide +kernel⟩, List.mem_of_getElem? (i := 15) (by decide +kernel), List.mem_of_getElem? (i := 135) (by decide +kernel), List.mem_of_getElem? (i := 136) (by decide +kernel)⟩
theorem lw_p9 : lw_okq (⟨"LibraryDrawer$Case", "fillFileWithWinner", "(I)V"⟩, 7) := ⟨⟨by decide +kernel, by decide +kernel⟩, List.mem_of_getElem? (i := 15) (by decide +kernel), List.mem_of_getElem? (i := 139) (by decide +kernel), List.mem_of_getElem? (i := 140) (by decide +kernel)⟩
theorem lw_p10 : lw_okq (⟨"LibraryDrawer$Case", "fillFileWithoutWinner", "(I)V"⟩, 7) := ⟨⟨by decide +kernel, by decide +kernel⟩, List.mem_of_getElem? (i := 15) (by decide +kernel), List.mem_of_getElem? (i := 143) (by decide +kernel), List.mem_of_getElem? (i := 144) (by decide +kernel)⟩
theorem lw_p11 : lw_okq (⟨"LibraryDrawer$Case", "fillPattern", "(I)V"⟩, 7) := ⟨⟨by decide +kernel, by decide +kernel⟩, List.mem_of_getElem? (i := 15) (by decide +kernel), List.mem_of_getElem? (i := 147) (by decide +kernel), List.mem_of_getElem? (i := 148) (by decide +kernel)⟩
theorem lw_p12 : lw_okq (⟨"LibraryDrawer$Case", "fillLine", "(I)V"⟩, 7) := ⟨⟨by decide +kernel, by decide +kernel⟩, List.mem_of_getElem? (i := 15) (by decide +kernel), List.mem_of_getElem? (i := 151) (by decide +kernel), List.mem_of_getElem? (i := 152) (by decide +kernel)⟩
theorem lw_p13 : lw_okq (⟨"LibraryDrawer$Case", "fillReader", "(I)V"⟩, 7) := ⟨⟨by decide +kernel, by decide +kernel⟩, List.mem_of_getElem? (i := 15) (by decide +kernel), List.mem_of_getElem? (i := 155) (by decide +kernel), List.mem_of_getElem? (i := 156) (by decide +kernel)⟩
theorem lw_p14 : lw_okq (⟨"LibraryDrawer$Case", "fillAct", "(I)V"⟩, 7) := ⟨⟨by decide +kernel, by decide +kernel⟩, List.mem_of_getElem? (i := 15) (by decide +kernel), List.mem_of_getElem? (i := 159) (by decide +kernel), List.mem_of_getElem? (i := 160) (by decide +kernel)⟩
theorem lw_p15 : lw_okq (⟨"LibraryDrawer$Case", "timeBefore", "(I)I"⟩, 7) := ⟨⟨by decide +kernel, by decide +kernel⟩, List.mem_of_getElem? (i := 15) (by decide +kernel), List.mem_of_getElem? (i := 163) (by decide +kernel), List.mem_of_getElem? (i := 164) (by decide +kernel)⟩
def lw_privs_1 : List (MethodName × Nat) := [(⟨"LibraryDrawer$Case", "fillPart", "(I)V"⟩, 7), (⟨"LibraryDrawer$Case", "fillRecord", "(I)V"⟩, 7), (⟨"LibraryDrawer$Case", "startTitle", "(I)V"⟩, 7), (⟨"LibraryDrawer$Case", "has", "(I)Z"⟩, 7), (⟨"LibraryDrawer$Case", "next", "(I)I"⟩, 7), (⟨"LibraryDrawer$Case", "put", "(IIII)V"⟩, 7), (⟨"LibraryDrawer$Case", "addSign", "(I)V"⟩, 7), (⟨"LibraryDrawer$Case", "repeatTitle", "(I)V"⟩, 7), (⟨"LibraryDrawer$Case", "fillFile", "(I)V"⟩, 7), (⟨"LibraryDrawer$Case", "fillFileWithWinner", "(I)V"⟩, 7), (⟨"LibraryDrawer$Case", "fillFileWithoutWinner", "(I)V"⟩, 7), (⟨"LibraryDrawer$Case", "fillPattern", "(I)V"⟩, 7), (⟨"LibraryDrawer$Case", "fillLine", "(I)V"⟩, 7), (⟨"LibraryDrawer$Case", "fillReader", "(I)V"⟩, 7), (⟨"LibraryDrawer$Case", "fillAct", "(I)V"⟩, 7), (⟨"LibraryDrawer$Case", "timeBefore", "(I)I"⟩, 7)]
theorem lw_r1 : ∀ q ∈ lw_privs_1, lw_okq q := List.forall_mem_cons.mpr ⟨lw_p0, List.forall_mem_cons.mpr ⟨lw_p1, List.forall_mem_cons.mpr ⟨lw_p2, List.forall_mem_cons.mpr ⟨lw_p3, List.forall_mem_cons.mpr ⟨lw_p4, List.forall_mem_cons.mpr ⟨lw_p5, List.forall_mem_cons.mpr ⟨lw_p6, List.forall_mem_cons.mpr ⟨lw_p7, List.forall_mem_cons.mpr ⟨lw_p8, List.forall_mem_cons.mpr ⟨lw_p9, List.forall_mem_cons.mpr ⟨lw_p10, List.forall_mem_cons.mpr ⟨lw_p11, List.forall_mem_cons.mpr ⟨lw_p12, List.forall_mem_cons.mpr ⟨lw_p13, List.forall_mem_cons.mpr ⟨lw_p14, List.forall_mem_cons.mpr ⟨lw_p15, fun _ h => absurd h List.not_mem_nil⟩⟩⟩⟩⟩⟩⟩⟩⟩⟩⟩⟩⟩⟩⟩⟩
theorem lw_p16 : lw_okq (⟨"LibraryDrawer$Case", "votes", "(II)I"⟩, 7) := ⟨⟨by decide +kernel, by decide +kernel⟩, List.mem_of_getElem? (i := 15) (by decide +kernel), List.mem_of_getElem? (i := 197) (by decide +kernel), List.mem_of_getElem? (i := 198) (by decide +kernel)⟩
theorem lw_p17 : lw_okq (⟨"LibraryDrawer", "smallerCase", "(I)I"⟩, 7) := ⟨⟨by decide +kernel, by decide +kernel⟩, List.mem_of_getElem? (i := 7) (by decide +kernel), List.mem_of_getElem? (i := 236) (by decide +kernel), List.mem_of_getElem? (i := 237) (by decide +kernel)⟩
theorem lw_p18 : lw_okq (⟨"LibraryDrawer", "staysFor", "(I)Z"⟩, 7) := ⟨⟨by decide +kernel, by decide +kernel⟩, List.mem_of_getElem? (i := 7) (by decide +kernel), List.mem_of_getElem? (i := 240) (by decide +kernel), List.mem_of_getElem? (i := 241) (by decide +kernel)⟩
theorem lw_p19 : lw_okq (⟨"LibraryDrawer", "afterOneGoing", "(I)I"⟩, 7) := ⟨⟨by decide +kernel, by decide +kernel⟩, List.mem_of_getElem? (i := 7) (by decide +kernel), List.mem_of_getElem? (i := 252) (by decide +kernel), List.mem_of_getElem? (i := 253) (by decide +kernel)⟩
theorem lw_p20 : lw_okq (⟨"LibraryDrawer", "sameParts", "()Z"⟩, 7) := ⟨⟨by decide +kernel, by decide +kernel⟩, List.mem_of_getElem? (i := 7) (by decide +kernel), List.mem_of_getElem? (i := 280) (by decide +kernel), List.mem_of_getElem? (i := 281) (by decide +kernel)⟩
theorem lw_p21 : lw_okq (⟨"LibraryDrawer", "sameSigns", "()Z"⟩, 7) := ⟨⟨by decide +kernel, by decide +kernel⟩, List.mem_of_getElem? (i := 7) (by decide +kernel), List.mem_of_getElem? (i := 284) (by decide +kernel), List.mem_of_getElem? (i := 285) (by decide +kernel)⟩
theorem lw_p22 : lw_okq (⟨"LibraryDrawerModel", "draws", "(IJII)V"⟩, 11) := ⟨⟨by decide +kernel, by decide +kernel⟩, List.mem_of_getElem? (i := 291) (by decide +kernel), List.mem_of_getElem? (i := 342) (by decide +kernel), List.mem_of_getElem? (i := 343) (by decide +kernel)⟩
theorem lw_p23 : lw_okq (⟨"LibraryDrawerModel", "part", "(IIII)V"⟩, 11) := ⟨⟨by decide +kernel, by decide +kernel⟩, List.mem_of_getElem? (i := 291) (by decide +kernel), List.mem_of_getElem? (i := 348) (by decide +kernel), List.mem_of_getElem? (i := 349) (by decide +kernel)⟩
theorem lw_p24 : lw_okq (⟨"LibraryDrawerModel", "record", "(II)V"⟩, 11) := ⟨⟨by decide +kernel, by decide +kernel⟩, List.mem_of_getElem? (i := 291) (by decide +kernel), List.mem_of_getElem? (i := 355) (by decide +kernel), List.mem_of_getElem? (i := 356) (by decide +kernel)⟩
theorem lw_p25 : lw_okq (⟨"LibraryDrawerModel", "next", "(I)I"⟩, 11) := ⟨⟨by decide +kernel, by decide +kernel⟩, List.mem_of_getElem? (i := 291) (by decide +kernel), List.mem_of_getElem? (i := 359) (by decide +kernel), List.mem_of_getElem? (i := 360) (by decide +kernel)⟩
theorem lw_p26 : lw_okq (⟨"LibraryDrawerModel", "file", "(II)V"⟩, 11) := ⟨⟨by decide +kernel, by decide +kernel⟩, List.mem_of_getElem? (i := 291) (by decide +kernel), List.mem_of_getElem? (i := 365) (by decide +kernel), List.mem_of_getElem? (i := 366) (by decide +kernel)⟩
theorem lw_p27 : lw_okq (⟨"LibraryDrawerModel", "all", "()I"⟩, 11) := ⟨⟨by decide +kernel, by decide +kernel⟩, List.mem_of_getElem? (i := 291) (by decide +kernel), List.mem_of_getElem? (i := 369) (by decide +kernel), List.mem_of_getElem? (i := 370) (by decide +kernel)⟩
theorem lw_p28 : lw_okq (⟨"LibraryDrawerModel", "isPart", "(I)Z"⟩, 11) := ⟨⟨by decide +kernel, by decide +kernel⟩, List.mem_of_getElem? (i := 291) (by decide +kernel), List.mem_of_getElem? (i := 377) (by decide +kernel), List.mem_of_getElem? (i := 378) (by decide +kernel)⟩
theorem lw_p29 : lw_okq (⟨"LibraryDrawerModel", "wins", "(I)I"⟩, 11) := ⟨⟨by decide +kernel, by decide +kernel⟩, List.mem_of_getElem? (i := 291) (by decide +kernel), List.mem_of_getElem? (i := 389) (by decide +kernel), List.mem_of_getElem? (i := 390) (by decide +kernel)⟩
theorem lw_p30 : lw_okq (⟨"LibraryDrawerModel", "lastDay", "(I)I"⟩, 11) := ⟨⟨by decide +kernel, by decide +kernel⟩, List.mem_of_getElem? (i := 291) (by decide +kernel), List.mem_of_getElem? (i := 397) (by decide +kernel), List.mem_of_getElem? (i := 398) (by decide +kernel)⟩
theorem lw_p31 : lw_okq (⟨"LibraryDrawerModel", "isPlanted", "(II)Z"⟩, 11) := ⟨⟨by decide +kernel, by decide +kernel⟩, List.mem_of_getElem? (i := 291) (by decide +kernel), List.mem_of_getElem? (i := 405) (by decide +kernel), List.mem_of_getElem? (i := 406) (by decide +kernel)⟩
def lw_privs_2 : List (MethodName × Nat) := [(⟨"LibraryDrawer$Case", "votes", "(II)I"⟩, 7), (⟨"LibraryDrawer", "smallerCase", "(I)I"⟩, 7), (⟨"LibraryDrawer", "staysFor", "(I)Z"⟩, 7), (⟨"LibraryDrawer", "afterOneGoing", "(I)I"⟩, 7), (⟨"LibraryDrawer", "sameParts", "()Z"⟩, 7), (⟨"LibraryDrawer", "sameSigns", "()Z"⟩, 7), (⟨"LibraryDrawerModel", "draws", "(IJII)V"⟩, 11), (⟨"LibraryDrawerModel", "part", "(IIII)V"⟩, 11), (⟨"LibraryDrawerModel", "record", "(II)V"⟩, 11), (⟨"LibraryDrawerModel", "next", "(I)I"⟩, 11), (⟨"LibraryDrawerModel", "file", "(II)V"⟩, 11), (⟨"LibraryDrawerModel", "all", "()I"⟩, 11), (⟨"LibraryDrawerModel", "isPart", "(I)Z"⟩, 11), (⟨"LibraryDrawerModel", "wins", "(I)I"⟩, 11), (⟨"LibraryDrawerModel", "lastDay", "(I)I"⟩, 11), (⟨"LibraryDrawerModel", "isPlanted", "(II)Z"⟩, 11)]
theorem lw_r2 : ∀ q ∈ lw_privs_2, lw_okq q := List.forall_mem_cons.mpr ⟨lw_p16, List.forall_mem_cons.mpr ⟨lw_p17, List.forall_mem_cons.mpr ⟨lw_p18, List.forall_mem_cons.mpr ⟨lw_p19, List.forall_mem_cons.mpr ⟨lw_p20, List.forall_mem_cons.mpr ⟨lw_p21, List.forall_mem_cons.mpr ⟨lw_p22, List.forall_mem_cons.mpr ⟨lw_p23, List.forall_mem_cons.mpr ⟨lw_p24, List.forall_mem_cons.mpr ⟨lw_p25, List.forall_mem_cons.mpr ⟨lw_p26, List.forall_mem_cons.mpr ⟨lw_p27, List.forall_mem_cons.mpr ⟨lw_p28, List.forall_mem_cons.mpr ⟨lw_p29, List.forall_mem_cons.mpr ⟨lw_p30, List.forall_mem_cons.mpr ⟨lw_p31, fun _ h => absurd h List.not_mem_nil⟩⟩⟩⟩⟩⟩⟩⟩⟩⟩⟩⟩⟩⟩⟩⟩
theorem lw_p32 : lw_okq (⟨"LibraryDrawerModel", "stays", "(I)Z"⟩, 11) := ⟨⟨by decide +kernel, by decide +kernel⟩, List.mem_of_getElem? (i := 291) (by decide +kernel), List.mem_of_getElem? (i := 417) (by decide +kernel), List.mem_of_getElem? (i := 418) (by decide +kernel)⟩
def lw_privs_3 : List (MethodName × Nat) := [(⟨"LibraryDrawerModel", "stays", "(I)Z"⟩, 11)]
theorem lw_r3 : ∀ q ∈ lw_privs_3, lw_okq q := List.forall_mem_cons.mpr ⟨lw_p32, fun _ h => absurd h List.not_mem_nil⟩
def lw_privs : List (MethodName × Nat) := lw_privs_1 ++ (lw_privs_2 ++ (lw_privs_3))
def lw_tbl : List Cond := k2_sels lw_privs ++ tables_1
theorem lw_privs_ok : ∀ q ∈ lw_privs, lw_okq q := by
  show ∀ q ∈ lw_privs_1 ++ (lw_privs_2 ++ (lw_privs_3)), lw_okq q
  exact List.forall_mem_append.mpr ⟨lw_r1, List.forall_mem_append.mpr ⟨lw_r2, lw_r3⟩⟩
/-- the words that a contract may carry -/
def zTs : List Cond := lw_tbl.filter goodWord
theorem zTs_good : ∀ w ∈ zTs, (w.onTables && w.keeps) = true ∨ ∃ ty, w = .arrayClass ty := fun _ h => good_of_word (List.mem_filter.mp h).2
theorem zTs_tbl : ∀ w ∈ zTs, w ∈ lw_tbl := fun _ h => (List.mem_filter.mp h).1
theorem zTs_at {w : Cond} (i : Nat) (h : lw_tbl[i]? = some w) (g : goodWord w = true) : w ∈ zTs := List.mem_filter.mpr ⟨List.mem_of_getElem? h, g⟩
def N_K : String := "LibraryDrawer$Case"
def T_K : u_T := fun k => match k with
  | 0 => ("LibraryDrawer$Case", "numbers", "[I", true)
  | 1 => ("LibraryDrawer$Case", "signs", "[I", true)
  | 2 => ("LibraryDrawer$Case", "titleStarts", "[I", true)
  | 3 => ("LibraryDrawer$Case", "chance", "J", false)
  | 4 => ("LibraryDrawer$Case", "kind", "I", false)
  | 5 => ("LibraryDrawer$Case", "parts", "I", false)
  | _ => ("LibraryDrawer$Case", "signsUsed", "I", false)
def t_K : Nat → FieldType := fun k => match k with
  | 0 => .array .int
  | 1 => .array .int
  | 2 => .array .int
  | 3 => .long
  | 4 => .int
  | 5 => .int
  | _ => .int
def N_R : String := "LibraryDrawer$Rows"
def T_R : u_T := fun k => match k with
  | 0 => ("LibraryDrawer$Rows", "rows", "[I", true)
  | _ => ("LibraryDrawer$Rows", "told", "I", false)
def t_R : Nat → FieldType := fun k => match k with
  | 0 => .array .int
  | _ => .int
def N_D : String := "LibraryDrawer"
def T_D : u_T := fun k => match k with
  | 0 => ("LibraryDrawer", "seed", "J", true)
  | 1 => ("LibraryDrawer", "drawn", "LLibraryDrawer$Case;", true)
  | 2 => ("LibraryDrawer", "ours", "LLibraryDrawer$Case;", true)
  | 3 => ("LibraryDrawer", "theirs", "LLibraryDrawer$Case;", true)
  | 4 => ("LibraryDrawer", "needed", "LLibraryDrawer$Rows;", true)
  | 5 => ("LibraryDrawer", "together", "LLibraryDrawer$Rows;", true)
  | _ => ("LibraryDrawer", "leftParts", "I", false)
def t_D : Nat → FieldType := fun k => match k with
  | 0 => .long
  | 1 => .object "LibraryDrawer$Case"
  | 2 => .object "LibraryDrawer$Case"
  | 3 => .object "LibraryDrawer$Case"
  | 4 => .object "LibraryDrawer$Rows"
  | 5 => .object "LibraryDrawer$Rows"
  | _ => .int
def N_M : String := "LibraryDrawerModel"
def T_M : u_T := fun k => match k with
  | 0 => ("LibraryDrawerModel", "thrown", "I", false)
  | 1 => ("LibraryDrawerModel", "seed", "J", true)
  | 2 => ("LibraryDrawerModel", "chance", "J", false)
  | 3 => ("LibraryDrawerModel", "kind", "I", false)
  | 4 => ("LibraryDrawerModel", "parts", "I", false)
  | 5 => ("LibraryDrawerModel", "values", "[I", true)
  | 6 => ("LibraryDrawerModel", "title", "[B", true)
  | 7 => ("LibraryDrawerModel", "needed", "I", false)
  | 8 => ("LibraryDrawerModel", "together", "I", false)
  | 9 => ("LibraryDrawerModel", "rows", "[I", true)
  | _ => ("LibraryDrawerModel", "left", "I", false)
def t_M : Nat → FieldType := fun k => match k with
  | 0 => .int
  | 1 => .long
  | 2 => .long
  | 3 => .int
  | 4 => .int
  | 5 => .array .int
  | 6 => .array .byte
  | 7 => .int
  | 8 => .int
  | 9 => .array .int
  | _ => .int
def N_J : String := "java/lang/Integer"
def N_L : String := "LibraryDrawerLaw"
abbrev vwCl : List vw_C := [(N_K, T_K, 7), (N_R, T_R, 2), (N_D, T_D, 7), (N_M, T_M, 11)]
abbrev zTy (cA : Nat → ClassId) : List (ClassId × FieldType) := [(cA 0, .int), (cA 1, .byte)]
abbrev b_D_init : ByteArray := prog_1_method_1_code
def y_D_init : MethodName := ⟨N_D, "<init>", "(J)V"⟩
abbrev b_K_init : ByteArray := prog_2_method_1_code
def y_K_init : MethodName := ⟨N_K, "<init>", "()V"⟩
abbrev b_R_init : ByteArray := prog_3_method_1_code
def y_R_init : MethodName := ⟨N_R, "<init>", "()V"⟩
abbrev b_D_draw : ByteArray := prog_1_method_2_code
def y_D_draw : MethodName := ⟨N_D, "draw", "(II)I"⟩
abbrev b_D_canBeDrawn : ByteArray := prog_1_method_13_code
def y_D_canBeDrawn : MethodName := ⟨N_D, "canBeDrawn", "(II)Z"⟩
abbrev b_K_fill : ByteArray := prog_2_method_6_code
def y_K_fill : MethodName := ⟨N_K, "fill", "(JII)V"⟩
abbrev b_K_fillPart : ByteArray := prog_2_method_7_code
def y_K_fillPart : MethodName := ⟨N_K, "fillPart", "(I)V"⟩
abbrev b_K_fillRecord : ByteArray := prog_2_method_8_code
def y_K_fillRecord : MethodName := ⟨N_K, "fillRecord", "(I)V"⟩
abbrev b_K_startTitle : ByteArray := prog_2_method_10_code
def y_K_startTitle : MethodName := ⟨N_K, "startTitle", "(I)V"⟩
abbrev b_K_has : ByteArray := prog_2_method_22_code
def y_K_has : MethodName := ⟨N_K, "has", "(I)Z"⟩
abbrev b_K_next : ByteArray := prog_2_method_20_code
def y_K_next : MethodName := ⟨N_K, "next", "(I)I"⟩
abbrev b_K_put : ByteArray := prog_2_method_21_code
def y_K_put : MethodName := ⟨N_K, "put", "(IIII)V"⟩
abbrev b_K_addSign : ByteArray := prog_2_method_11_code
def y_K_addSign : MethodName := ⟨N_K, "addSign", "(I)V"⟩
abbrev b_K_number : ByteArray := prog_2_method_4_code
def y_K_number : MethodName := ⟨N_K, "number", "(II)I"⟩
abbrev b_K_repeatTitle : ByteArray := prog_2_method_9_code
def y_K_repeatTitle : MethodName := ⟨N_K, "repeatTitle", "(I)V"⟩
abbrev b_K_sign : ByteArray := prog_2_method_5_code
def y_K_sign : MethodName := ⟨N_K, "sign", "(I)I"⟩
abbrev b_K_fillFile : ByteArray := prog_2_method_12_code
def y_K_fillFile : MethodName := ⟨N_K, "fillFile", "(I)V"⟩
abbrev b_K_fillFileWithWinner : ByteArray := prog_2_method_13_code
def y_K_fillFileWithWinner : MethodName := ⟨N_K, "fillFileWithWinner", "(I)V"⟩
abbrev b_K_fillFileWithoutWinner : ByteArray := prog_2_method_14_code
def y_K_fillFileWithoutWinner : MethodName := ⟨N_K, "fillFileWithoutWinner", "(I)V"⟩
abbrev b_K_fillPattern : ByteArray := prog_2_method_15_code
def y_K_fillPattern : MethodName := ⟨N_K, "fillPattern", "(I)V"⟩
abbrev b_K_fillLine : ByteArray := prog_2_method_16_code
def y_K_fillLine : MethodName := ⟨N_K, "fillLine", "(I)V"⟩
abbrev b_K_fillReader : ByteArray := prog_2_method_17_code
def y_K_fillReader : MethodName := ⟨N_K, "fillReader", "(I)V"⟩
abbrev b_K_fillAct : ByteArray := prog_2_method_18_code
def y_K_fillAct : MethodName := ⟨N_K, "fillAct", "(I)V"⟩
abbrev b_K_timeBefore : ByteArray := prog_2_method_19_code
def y_K_timeBefore : MethodName := ⟨N_K, "timeBefore", "(I)I"⟩
abbrev b_R_clear : ByteArray := prog_3_method_2_code
def y_R_clear : MethodName := ⟨N_R, "clear", "()V"⟩
abbrev b_K_allParts : ByteArray := prog_2_method_3_code
def y_K_allParts : MethodName := ⟨N_K, "allParts", "()I"⟩
abbrev b_K_count : ByteArray := prog_2_method_2_code
def y_K_count : MethodName := ⟨N_K, "count", "()I"⟩
abbrev b_D_part : ByteArray := prog_1_method_3_code
def y_D_part : MethodName := ⟨N_D, "part", "(II)I"⟩
abbrev b_D_letter : ByteArray := prog_1_method_4_code
def y_D_letter : MethodName := ⟨N_D, "letter", "(I)I"⟩
abbrev b_D_majority : ByteArray := prog_1_method_5_code
def y_D_majority : MethodName := ⟨N_D, "majority", "(I)I"⟩
abbrev b_K_winner : ByteArray := prog_2_method_23_code
def y_K_winner : MethodName := ⟨N_K, "winner", "(I)I"⟩
abbrev b_K_votes : ByteArray := prog_2_method_24_code
def y_K_votes : MethodName := ⟨N_K, "votes", "(II)I"⟩
abbrev b_D_ends : ByteArray := prog_1_method_6_code
def y_D_ends : MethodName := ⟨N_D, "ends", "(I)Z"⟩
abbrev b_K_isPattern : ByteArray := prog_2_method_25_code
def y_K_isPattern : MethodName := ⟨N_K, "isPattern", "(I)Z"⟩
abbrev b_K_lastDay : ByteArray := prog_2_method_26_code
def y_K_lastDay : MethodName := ⟨N_K, "lastDay", "(I)I"⟩
abbrev b_D_planted : ByteArray := prog_1_method_7_code
def y_D_planted : MethodName := ⟨N_D, "planted", "(I)I"⟩
abbrev b_K_shows : ByteArray := prog_2_method_27_code
def y_K_shows : MethodName := ⟨N_K, "shows", "(II)Z"⟩
abbrev b_D_verdict : ByteArray := prog_1_method_8_code
def y_D_verdict : MethodName := ⟨N_D, "verdict", "(IZ)V"⟩
abbrev b_R_add : ByteArray := prog_3_method_3_code
def y_R_add : MethodName := ⟨N_R, "add", "(I)V"⟩
abbrev b_D_shorter : ByteArray := prog_1_method_9_code
def y_D_shorter : MethodName := ⟨N_D, "shorter", "()I"⟩
abbrev b_D_smallerCase : ByteArray := prog_1_method_17_code
def y_D_smallerCase : MethodName := ⟨N_D, "smallerCase", "(I)I"⟩
abbrev b_D_staysFor : ByteArray := prog_1_method_16_code
def y_D_staysFor : MethodName := ⟨N_D, "staysFor", "(I)Z"⟩
abbrev b_R_oneIsWithin : ByteArray := prog_3_method_4_code
def y_R_oneIsWithin : MethodName := ⟨N_R, "oneIsWithin", "(I)Z"⟩
abbrev b_R_oneIsTornBy : ByteArray := prog_3_method_5_code
def y_R_oneIsTornBy : MethodName := ⟨N_R, "oneIsTornBy", "(I)Z"⟩
abbrev b_D_afterOneGoing : ByteArray := prog_1_method_18_code
def y_D_afterOneGoing : MethodName := ⟨N_D, "afterOneGoing", "(I)I"⟩
abbrev b_D_isIn : ByteArray := prog_1_method_19_code
def y_D_isIn : MethodName := ⟨N_D, "isIn", "(II)Z"⟩
abbrev b_D_without : ByteArray := prog_1_method_20_code
def y_D_without : MethodName := ⟨N_D, "without", "(II)I"⟩
abbrev b_J_bitCount : ByteArray := prog_6_method_49_code
def y_J_bitCount : MethodName := ⟨N_J, "bitCount", "(I)I"⟩
abbrev b_D_left : ByteArray := prog_1_method_10_code
def y_D_left : MethodName := ⟨N_D, "left", "(I)I"⟩
abbrev b_D_minimal : ByteArray := prog_1_method_11_code
def y_D_minimal : MethodName := ⟨N_D, "minimal", "()Z"⟩
abbrev b_D_same : ByteArray := prog_1_method_12_code
def y_D_same : MethodName := ⟨N_D, "same", "(JII)Z"⟩
abbrev b_D_sameParts : ByteArray := prog_1_method_14_code
def y_D_sameParts : MethodName := ⟨N_D, "sameParts", "()Z"⟩
abbrev b_D_sameSigns : ByteArray := prog_1_method_15_code
def y_D_sameSigns : MethodName := ⟨N_D, "sameSigns", "()Z"⟩
abbrev b_L_cell : ByteArray := method_2_code
def y_L_cell : MethodName := ⟨N_L, "cell", "([II)I"⟩
abbrev b_M_init : ByteArray := prog_5_method_1_code
def y_M_init : MethodName := ⟨N_M, "<init>", "(J)V"⟩
abbrev b_M_draw : ByteArray := prog_5_method_12_code
def y_M_draw : MethodName := ⟨N_M, "draw", "(II)I"⟩
abbrev b_M_can : ByteArray := prog_5_method_10_code
def y_M_can : MethodName := ⟨N_M, "can", "(II)Z"⟩
abbrev b_M_in : ByteArray := prog_5_method_3_code
def y_M_in : MethodName := ⟨N_M, "in", "(III)Z"⟩
abbrev b_M_draws : ByteArray := prog_5_method_9_code
def y_M_draws : MethodName := ⟨N_M, "draws", "(IJII)V"⟩
abbrev b_M_part4 : ByteArray := prog_5_method_8_code
def y_M_part4 : MethodName := ⟨N_M, "part", "(IIII)V"⟩
abbrev b_M_at : ByteArray := prog_5_method_5_code
def y_M_at : MethodName := ⟨N_M, "at", "(II)I"⟩
abbrev b_M_record : ByteArray := prog_5_method_6_code
def y_M_record : MethodName := ⟨N_M, "record", "(II)V"⟩
abbrev b_M_next : ByteArray := prog_5_method_4_code
def y_M_next : MethodName := ⟨N_M, "next", "(I)I"⟩
abbrev b_M_file : ByteArray := prog_5_method_7_code
def y_M_file : MethodName := ⟨N_M, "file", "(II)V"⟩
abbrev b_M_all : ByteArray := prog_5_method_11_code
def y_M_all : MethodName := ⟨N_M, "all", "()I"⟩
abbrev b_M_part : ByteArray := prog_5_method_14_code
def y_M_part : MethodName := ⟨N_M, "part", "(II)I"⟩
abbrev b_M_isPart : ByteArray := prog_5_method_13_code
def y_M_isPart : MethodName := ⟨N_M, "isPart", "(I)Z"⟩
abbrev b_M_letter : ByteArray := prog_5_method_15_code
def y_M_letter : MethodName := ⟨N_M, "letter", "(I)I"⟩
abbrev b_M_majority : ByteArray := prog_5_method_17_code
def y_M_majority : MethodName := ⟨N_M, "majority", "(I)I"⟩
abbrev b_M_wins : ByteArray := prog_5_method_16_code
def y_M_wins : MethodName := ⟨N_M, "wins", "(I)I"⟩
abbrev b_M_ends : ByteArray := prog_5_method_19_code
def y_M_ends : MethodName := ⟨N_M, "ends", "(I)Z"⟩
abbrev b_M_lastDay : ByteArray := prog_5_method_18_code
def y_M_lastDay : MethodName := ⟨N_M, "lastDay", "(I)I"⟩
abbrev b_M_planted : ByteArray := prog_5_method_21_code
def y_M_planted : MethodName := ⟨N_M, "planted", "(I)I"⟩
abbrev b_M_isPlanted : ByteArray := prog_5_method_20_code
def y_M_isPlanted : MethodName := ⟨N_M, "isPlanted", "(II)Z"⟩
abbrev b_M_verdict : ByteArray := prog_5_method_22_code
def y_M_verdict : MethodName := ⟨N_M, "verdict", "(IZ)V"⟩
abbrev b_M_shorter : ByteArray := prog_5_method_25_code
def y_M_shorter : MethodName := ⟨N_M, "shorter", "()I"⟩
abbrev b_M_stays : ByteArray := prog_5_method_23_code
def y_M_stays : MethodName := ⟨N_M, "stays", "(I)Z"⟩
abbrev b_M_count : ByteArray := prog_5_method_24_code
def y_M_count : MethodName := ⟨N_M, "count", "(I)I"⟩
abbrev b_M_left : ByteArray := prog_5_method_26_code
def y_M_left : MethodName := ⟨N_M, "left", "(I)I"⟩
abbrev b_M_minimal : ByteArray := prog_5_method_27_code
def y_M_minimal : MethodName := ⟨N_M, "minimal", "()Z"⟩
abbrev b_M_same : ByteArray := prog_5_method_28_code
def y_M_same : MethodName := ⟨N_M, "same", "(JII)Z"⟩
def zNest : List Cond := [.methodLinkNest N_D 11 y_K_init "LibraryDrawer", .methodLinkNest N_D 24 y_R_init "LibraryDrawer", .methodLinkNest N_K 39 y_D_canBeDrawn "LibraryDrawer"]
theorem zNest_tab : ∀ w ∈ zNest, w.onTables = true := by decide +kernel
theorem zNest_form : ∀ w ∈ zNest, ∃ (a : String) (i : Nat) (x : MethodName) (h : String), w = .methodLinkNest a i x h := by
  intro w hw
  simp only [zNest, List.mem_cons, List.not_mem_nil, or_false] at hw
  rcases hw with rfl | rfl | rfl <;> exact ⟨_, _, _, _, rfl⟩
theorem zNest_tbl : ∀ w ∈ zNest, w ∈ lw_tbl := by
  intro w hw
  simp only [zNest, List.mem_cons, List.not_mem_nil, or_false] at hw
  rcases hw with rfl | rfl | rfl
  · exact List.mem_of_getElem? (i := 49) (by decide +kernel)
  · exact List.mem_of_getElem? (i := 78) (by decide +kernel)
  · exact List.mem_of_getElem? (i := 122) (by decide +kernel)
end
section
theorem d_D_init_0 : decode b_D_init 0 = .ok (.aload_n 0, 1) := by decide +kernel
theorem d_D_init_1 : decode b_D_init 1 = .ok (.invokespecial 3, 3) := by decide +kernel
theorem d_D_init_4 : decode b_D_init 4 = .ok (.aload_n 0, 1) := by decide +kernel
theorem d_D_init_5 : decode b_D_init 5 = .ok (.new 9, 3) := by decide +kernel
theorem d_D_init_8 : decode b_D_init 8 = .ok (.dup, 1) := by decide +kernel
theorem d_D_init_9 : decode b_D_init 9 = .ok (.invokespecial 11, 3) := by decide +kernel
theorem d_D_init_12 : decode b_D_init 12 = .ok (.putfield 12, 3) := by decide +kernel
theorem d_D_init_15 : decode b_D_init 15 = .ok (.aload_n 0, 1) := by decide +kernel
theorem d_D_init_16 : decode b_D_init 16 = .ok (.new 9, 3) := by decide +kernel
theorem d_D_init_19 : decode b_D_init 19 = .ok (.dup, 1) := by decide +kernel
theorem d_D_init_20 : decode b_D_init 20 = .ok (.invokespecial 11, 3) := by decide +kernel
theorem d_D_init_23 : decode b_D_init 23 = .ok (.putfield 16, 3) := by decide +kernel
theorem d_D_init_26 : decode b_D_init 26 = .ok (.aload_n 0, 1) := by decide +kernel
theorem d_D_init_27 : decode b_D_init 27 = .ok (.new 9, 3) := by decide +kernel
theorem d_D_init_30 : decode b_D_init 30 = .ok (.dup, 1) := by decide +kernel
theorem d_D_init_31 : decode b_D_init 31 = .ok (.invokespecial 11, 3) := by decide +kernel
theorem d_D_init_34 : decode b_D_init 34 = .ok (.putfield 19, 3) := by decide +kernel
theorem d_D_init_37 : decode b_D_init 37 = .ok (.aload_n 0, 1) := by decide +kernel
theorem d_D_init_38 : decode b_D_init 38 = .ok (.new 22, 3) := by decide +kernel
theorem d_D_init_41 : decode b_D_init 41 = .ok (.dup, 1) := by decide +kernel
theorem d_D_init_42 : decode b_D_init 42 = .ok (.invokespecial 24, 3) := by decide +kernel
theorem d_D_init_45 : decode b_D_init 45 = .ok (.putfield 25, 3) := by decide +kernel
theorem d_D_init_48 : decode b_D_init 48 = .ok (.aload_n 0, 1) := by decide +kernel
theorem d_D_init_49 : decode b_D_init 49 = .ok (.new 22, 3) := by decide +kernel
theorem d_D_init_52 : decode b_D_init 52 = .ok (.dup, 1) := by decide +kernel
theorem d_D_init_53 : decode b_D_init 53 = .ok (.invokespecial 24, 3) := by decide +kernel
theorem d_D_init_56 : decode b_D_init 56 = .ok (.putfield 29, 3) := by decide +kernel
theorem d_D_init_59 : decode b_D_init 59 = .ok (.aload_n 0, 1) := by decide +kernel
theorem d_D_init_60 : decode b_D_init 60 = .ok (.iconst 0, 1) := by decide +kernel
theorem d_D_init_61 : decode b_D_init 61 = .ok (.putfield 32, 3) := by decide +kernel
theorem d_D_init_64 : decode b_D_init 64 = .ok (.aload_n 0, 1) := by decide +kernel
theorem d_D_init_65 : decode b_D_init 65 = .ok (.lload_n 1, 1) := by decide +kernel
theorem d_D_init_66 : decode b_D_init 66 = .ok (.putfield 36, 3) := by decide +kernel
theorem d_D_init_69 : decode b_D_init 69 = .ok (.return_, 1) := by decide +kernel
theorem d_K_init_0 : decode b_K_init 0 = .ok (.aload_n 0, 1) := by decide +kernel
theorem d_K_init_1 : decode b_K_init 1 = .ok (.invokespecial 3, 3) := by decide +kernel
theorem d_K_init_4 : decode b_K_init 4 = .ok (.aload_n 0, 1) := by decide +kernel
theorem d_K_init_5 : decode b_K_init 5 = .ok (.bipush 63, 2) := by decide +kernel
theorem d_K_init_7 : decode b_K_init 7 = .ok (.newarray .int, 2) := by decide +kernel
theorem d_K_init_9 : decode b_K_init 9 = .ok (.putfield 9, 3) := by decide +kernel
theorem d_K_init_12 : decode b_K_init 12 = .ok (.aload_n 0, 1) := by decide +kernel
theorem d_K_init_13 : decode b_K_init 13 = .ok (.sipush 147, 3) := by decide +kernel
theorem d_K_init_16 : decode b_K_init 16 = .ok (.newarray .int, 2) := by decide +kernel
theorem d_K_init_18 : decode b_K_init 18 = .ok (.putfield 15, 3) := by decide +kernel
theorem d_K_init_21 : decode b_K_init 21 = .ok (.aload_n 0, 1) := by decide +kernel
theorem d_K_init_22 : decode b_K_init 22 = .ok (.bipush 21, 2) := by decide +kernel
theorem d_K_init_24 : decode b_K_init 24 = .ok (.newarray .int, 2) := by decide +kernel
theorem d_K_init_26 : decode b_K_init 26 = .ok (.putfield 18, 3) := by decide +kernel
theorem d_K_init_29 : decode b_K_init 29 = .ok (.aload_n 0, 1) := by decide +kernel
theorem d_K_init_30 : decode b_K_init 30 = .ok (.lconst 0, 1) := by decide +kernel
theorem d_K_init_31 : decode b_K_init 31 = .ok (.putfield 21, 3) := by decide +kernel
theorem d_K_init_34 : decode b_K_init 34 = .ok (.aload_n 0, 1) := by decide +kernel
theorem d_K_init_35 : decode b_K_init 35 = .ok (.iconst (-1), 1) := by decide +kernel
theorem d_K_init_36 : decode b_K_init 36 = .ok (.putfield 25, 3) := by decide +kernel
theorem d_K_init_39 : decode b_K_init 39 = .ok (.aload_n 0, 1) := by decide +kernel
theorem d_K_init_40 : decode b_K_init 40 = .ok (.iconst 0, 1) := by decide +kernel
theorem d_K_init_41 : decode b_K_init 41 = .ok (.putfield 29, 3) := by decide +kernel
theorem d_K_init_44 : decode b_K_init 44 = .ok (.aload_n 0, 1) := by decide +kernel
theorem d_K_init_45 : decode b_K_init 45 = .ok (.iconst 0, 1) := by decide +kernel
theorem d_K_init_46 : decode b_K_init 46 = .ok (.putfield 32, 3) := by decide +kernel
theorem d_K_init_49 : decode b_K_init 49 = .ok (.return_, 1) := by decide +kernel
theorem d_R_init_0 : decode b_R_init 0 = .ok (.aload_n 0, 1) := by decide +kernel
theorem d_R_init_1 : decode b_R_init 1 = .ok (.invokespecial 3, 3) := by decide +kernel
theorem d_R_init_4 : decode b_R_init 4 = .ok (.aload_n 0, 1) := by decide +kernel
theorem d_R_init_5 : decode b_R_init 5 = .ok (.bipush 6, 2) := by decide +kernel
theorem d_R_init_7 : decode b_R_init 7 = .ok (.newarray .int, 2) := by decide +kernel
theorem d_R_init_9 : decode b_R_init 9 = .ok (.putfield 9, 3) := by decide +kernel
theorem d_R_init_12 : decode b_R_init 12 = .ok (.aload_n 0, 1) := by decide +kernel
theorem d_R_init_13 : decode b_R_init 13 = .ok (.iconst 0, 1) := by decide +kernel
theorem d_R_init_14 : decode b_R_init 14 = .ok (.putfield 15, 3) := by decide +kernel
theorem d_R_init_17 : decode b_R_init 17 = .ok (.return_, 1) := by decide +kernel
theorem d_D_draw_0 : decode b_D_draw 0 = .ok (.iload_n 1, 1) := by decide +kernel
theorem d_D_draw_1 : decode b_D_draw 1 = .ok (.iload_n 2, 1) := by decide +kernel
theorem d_D_draw_2 : decode b_D_draw 2 = .ok (.invokestatic 40, 3) := by decide +kernel
theorem d_D_draw_5 : decode b_D_draw 5 = .ok (.ifCond .ne 5, 3) := by decide +kernel
theorem d_D_draw_8 : decode b_D_draw 8 = .ok (.iconst (-1), 1) := by decide +kernel
theorem d_D_draw_9 : decode b_D_draw 9 = .ok (.ireturn, 1) := by decide +kernel
theorem d_D_draw_10 : decode b_D_draw 10 = .ok (.aload_n 0, 1) := by decide +kernel
theorem d_D_draw_11 : decode b_D_draw 11 = .ok (.getfield 12, 3) := by decide +kernel
theorem d_D_draw_14 : decode b_D_draw 14 = .ok (.aload_n 0, 1) := by decide +kernel
theorem d_D_draw_15 : decode b_D_draw 15 = .ok (.getfield 36, 3) := by decide +kernel
theorem d_D_draw_18 : decode b_D_draw 18 = .ok (.iload_n 1, 1) := by decide +kernel
theorem d_D_draw_19 : decode b_D_draw 19 = .ok (.iload_n 2, 1) := by decide +kernel
theorem d_D_draw_20 : decode b_D_draw 20 = .ok (.invokevirtual 44, 3) := by decide +kernel
theorem d_D_draw_23 : decode b_D_draw 23 = .ok (.aload_n 0, 1) := by decide +kernel
theorem d_D_draw_24 : decode b_D_draw 24 = .ok (.getfield 25, 3) := by decide +kernel
theorem d_D_draw_27 : decode b_D_draw 27 = .ok (.invokevirtual 48, 3) := by decide +kernel
theorem d_D_draw_30 : decode b_D_draw 30 = .ok (.aload_n 0, 1) := by decide +kernel
theorem d_D_draw_31 : decode b_D_draw 31 = .ok (.getfield 29, 3) := by decide +kernel
theorem d_D_draw_34 : decode b_D_draw 34 = .ok (.invokevirtual 48, 3) := by decide +kernel
theorem d_D_draw_37 : decode b_D_draw 37 = .ok (.aload_n 0, 1) := by decide +kernel
theorem d_D_draw_38 : decode b_D_draw 38 = .ok (.aload_n 0, 1) := by decide +kernel
theorem d_D_draw_39 : decode b_D_draw 39 = .ok (.getfield 12, 3) := by decide +kernel
theorem d_D_draw_42 : decode b_D_draw 42 = .ok (.invokevirtual 51, 3) := by decide +kernel
theorem d_D_draw_45 : decode b_D_draw 45 = .ok (.putfield 32, 3) := by decide +kernel
theorem d_D_draw_48 : decode b_D_draw 48 = .ok (.aload_n 0, 1) := by decide +kernel
theorem d_D_draw_49 : decode b_D_draw 49 = .ok (.getfield 12, 3) := by decide +kernel
theorem d_D_draw_52 : decode b_D_draw 52 = .ok (.invokevirtual 55, 3) := by decide +kernel
theorem d_D_draw_55 : decode b_D_draw 55 = .ok (.ireturn, 1) := by decide +kernel
theorem d_D_canBeDrawn_0 : decode b_D_canBeDrawn 0 = .ok (.iload_n 0, 1) := by decide +kernel
theorem d_D_canBeDrawn_1 : decode b_D_canBeDrawn 1 = .ok (.ifCond .lt 22, 3) := by decide +kernel
theorem d_D_canBeDrawn_4 : decode b_D_canBeDrawn 4 = .ok (.iload_n 0, 1) := by decide +kernel
theorem d_D_canBeDrawn_5 : decode b_D_canBeDrawn 5 = .ok (.iconst 5, 1) := by decide +kernel
theorem d_D_canBeDrawn_6 : decode b_D_canBeDrawn 6 = .ok (.if_icmp .gt 17, 3) := by decide +kernel
theorem d_D_canBeDrawn_9 : decode b_D_canBeDrawn 9 = .ok (.iload_n 1, 1) := by decide +kernel
theorem d_D_canBeDrawn_10 : decode b_D_canBeDrawn 10 = .ok (.ifCond .lt 13, 3) := by decide +kernel
theorem d_D_canBeDrawn_13 : decode b_D_canBeDrawn 13 = .ok (.iload_n 1, 1) := by decide +kernel
theorem d_D_canBeDrawn_14 : decode b_D_canBeDrawn 14 = .ok (.bipush 20, 2) := by decide +kernel
theorem d_D_canBeDrawn_16 : decode b_D_canBeDrawn 16 = .ok (.if_icmp .gt 7, 3) := by decide +kernel
theorem d_D_canBeDrawn_19 : decode b_D_canBeDrawn 19 = .ok (.iconst 1, 1) := by decide +kernel
theorem d_D_canBeDrawn_20 : decode b_D_canBeDrawn 20 = .ok (.goto 4, 3) := by decide +kernel
theorem d_D_canBeDrawn_23 : decode b_D_canBeDrawn 23 = .ok (.iconst 0, 1) := by decide +kernel
theorem d_D_canBeDrawn_24 : decode b_D_canBeDrawn 24 = .ok (.ireturn, 1) := by decide +kernel
theorem d_K_fill_0 : decode b_K_fill 0 = .ok (.iload_n 3, 1) := by decide +kernel
theorem d_K_fill_1 : decode b_K_fill 1 = .ok (.iload 4, 2) := by decide +kernel
theorem d_K_fill_3 : decode b_K_fill 3 = .ok (.invokestatic 39, 3) := by decide +kernel
theorem d_K_fill_6 : decode b_K_fill 6 = .ok (.ifCond .ne 4, 3) := by decide +kernel
theorem d_K_fill_9 : decode b_K_fill 9 = .ok (.return_, 1) := by decide +kernel
theorem d_K_fill_10 : decode b_K_fill 10 = .ok (.aload_n 0, 1) := by decide +kernel
theorem d_K_fill_11 : decode b_K_fill 11 = .ok (.lload_n 1, 1) := by decide +kernel
theorem d_K_fill_12 : decode b_K_fill 12 = .ok (.ldc2_w 43, 3) := by decide +kernel
theorem d_K_fill_15 : decode b_K_fill 15 = .ok (.iload_n 3, 1) := by decide +kernel
theorem d_K_fill_16 : decode b_K_fill 16 = .ok (.i2l, 1) := by decide +kernel
theorem d_K_fill_17 : decode b_K_fill 17 = .ok (.lmul, 1) := by decide +kernel
theorem d_K_fill_18 : decode b_K_fill 18 = .ok (.ladd, 1) := by decide +kernel
theorem d_K_fill_19 : decode b_K_fill 19 = .ok (.ldc2_w 45, 3) := by decide +kernel
theorem d_K_fill_22 : decode b_K_fill 22 = .ok (.iload 4, 2) := by decide +kernel
theorem d_K_fill_24 : decode b_K_fill 24 = .ok (.i2l, 1) := by decide +kernel
theorem d_K_fill_25 : decode b_K_fill 25 = .ok (.lmul, 1) := by decide +kernel
theorem d_K_fill_26 : decode b_K_fill 26 = .ok (.ladd, 1) := by decide +kernel
theorem d_K_fill_27 : decode b_K_fill 27 = .ok (.putfield 21, 3) := by decide +kernel
theorem d_K_fill_30 : decode b_K_fill 30 = .ok (.aload_n 0, 1) := by decide +kernel
theorem d_K_fill_31 : decode b_K_fill 31 = .ok (.iload_n 3, 1) := by decide +kernel
theorem d_K_fill_32 : decode b_K_fill 32 = .ok (.putfield 25, 3) := by decide +kernel
theorem d_K_fill_35 : decode b_K_fill 35 = .ok (.aload_n 0, 1) := by decide +kernel
theorem d_K_fill_36 : decode b_K_fill 36 = .ok (.iload 4, 2) := by decide +kernel
theorem d_K_fill_38 : decode b_K_fill 38 = .ok (.iconst 1, 1) := by decide +kernel
theorem d_K_fill_39 : decode b_K_fill 39 = .ok (.iadd, 1) := by decide +kernel
theorem d_K_fill_40 : decode b_K_fill 40 = .ok (.putfield 29, 3) := by decide +kernel
theorem d_K_fill_43 : decode b_K_fill 43 = .ok (.aload_n 0, 1) := by decide +kernel
theorem d_K_fill_44 : decode b_K_fill 44 = .ok (.iconst 0, 1) := by decide +kernel
theorem d_K_fill_45 : decode b_K_fill 45 = .ok (.putfield 32, 3) := by decide +kernel
theorem d_K_fill_48 : decode b_K_fill 48 = .ok (.iconst 0, 1) := by decide +kernel
theorem d_K_fill_49 : decode b_K_fill 49 = .ok (.istore 5, 2) := by decide +kernel
theorem d_K_fill_51 : decode b_K_fill 51 = .ok (.iload 5, 2) := by decide +kernel
theorem d_K_fill_53 : decode b_K_fill 53 = .ok (.aload_n 0, 1) := by decide +kernel
theorem d_K_fill_54 : decode b_K_fill 54 = .ok (.getfield 29, 3) := by decide +kernel
theorem d_K_fill_57 : decode b_K_fill 57 = .ok (.if_icmp .ge 15, 3) := by decide +kernel
theorem d_K_fill_60 : decode b_K_fill 60 = .ok (.aload_n 0, 1) := by decide +kernel
theorem d_K_fill_61 : decode b_K_fill 61 = .ok (.iload 5, 2) := by decide +kernel
theorem d_K_fill_63 : decode b_K_fill 63 = .ok (.invokevirtual 47, 3) := by decide +kernel
theorem d_K_fill_66 : decode b_K_fill 66 = .ok (.iinc 5 1, 3) := by decide +kernel
theorem d_K_fill_69 : decode b_K_fill 69 = .ok (.goto (-18), 3) := by decide +kernel
theorem d_K_fill_72 : decode b_K_fill 72 = .ok (.return_, 1) := by decide +kernel
theorem d_K_fillPart_0 : decode b_K_fillPart 0 = .ok (.aload_n 0, 1) := by decide +kernel
theorem d_K_fillPart_1 : decode b_K_fillPart 1 = .ok (.getfield 25, 3) := by decide +kernel
theorem d_K_fillPart_4 : decode b_K_fillPart 4 = .ok (.tableswitch 76 0 4 #[36, 44, 52, 60, 68], 36) := by decide +kernel
theorem d_K_fillPart_40 : decode b_K_fillPart 40 = .ok (.aload_n 0, 1) := by decide +kernel
theorem d_K_fillPart_41 : decode b_K_fillPart 41 = .ok (.iload_n 1, 1) := by decide +kernel
theorem d_K_fillPart_42 : decode b_K_fillPart 42 = .ok (.invokevirtual 51, 3) := by decide +kernel
theorem d_K_fillPart_45 : decode b_K_fillPart 45 = .ok (.goto 40, 3) := by decide +kernel
theorem d_K_fillPart_48 : decode b_K_fillPart 48 = .ok (.aload_n 0, 1) := by decide +kernel
theorem d_K_fillPart_49 : decode b_K_fillPart 49 = .ok (.iload_n 1, 1) := by decide +kernel
theorem d_K_fillPart_50 : decode b_K_fillPart 50 = .ok (.invokevirtual 54, 3) := by decide +kernel
theorem d_K_fillPart_53 : decode b_K_fillPart 53 = .ok (.goto 32, 3) := by decide +kernel
theorem d_K_fillPart_56 : decode b_K_fillPart 56 = .ok (.aload_n 0, 1) := by decide +kernel
theorem d_K_fillPart_57 : decode b_K_fillPart 57 = .ok (.iload_n 1, 1) := by decide +kernel
theorem d_K_fillPart_58 : decode b_K_fillPart 58 = .ok (.invokevirtual 57, 3) := by decide +kernel
theorem d_K_fillPart_61 : decode b_K_fillPart 61 = .ok (.goto 24, 3) := by decide +kernel
theorem d_K_fillPart_64 : decode b_K_fillPart 64 = .ok (.aload_n 0, 1) := by decide +kernel
theorem d_K_fillPart_65 : decode b_K_fillPart 65 = .ok (.iload_n 1, 1) := by decide +kernel
theorem d_K_fillPart_66 : decode b_K_fillPart 66 = .ok (.invokevirtual 60, 3) := by decide +kernel
theorem d_K_fillPart_69 : decode b_K_fillPart 69 = .ok (.goto 16, 3) := by decide +kernel
theorem d_K_fillPart_72 : decode b_K_fillPart 72 = .ok (.aload_n 0, 1) := by decide +kernel
theorem d_K_fillPart_73 : decode b_K_fillPart 73 = .ok (.iload_n 1, 1) := by decide +kernel
theorem d_K_fillPart_74 : decode b_K_fillPart 74 = .ok (.invokevirtual 63, 3) := by decide +kernel
theorem d_K_fillPart_77 : decode b_K_fillPart 77 = .ok (.goto 8, 3) := by decide +kernel
theorem d_K_fillPart_80 : decode b_K_fillPart 80 = .ok (.aload_n 0, 1) := by decide +kernel
theorem d_K_fillPart_81 : decode b_K_fillPart 81 = .ok (.iload_n 1, 1) := by decide +kernel
theorem d_K_fillPart_82 : decode b_K_fillPart 82 = .ok (.invokevirtual 66, 3) := by decide +kernel
theorem d_K_fillPart_85 : decode b_K_fillPart 85 = .ok (.return_, 1) := by decide +kernel
theorem d_K_fillRecord_0 : decode b_K_fillRecord 0 = .ok (.aload_n 0, 1) := by decide +kernel
theorem d_K_fillRecord_1 : decode b_K_fillRecord 1 = .ok (.iload_n 1, 1) := by decide +kernel
theorem d_K_fillRecord_2 : decode b_K_fillRecord 2 = .ok (.invokevirtual 69, 3) := by decide +kernel
theorem d_K_fillRecord_5 : decode b_K_fillRecord 5 = .ok (.iload_n 1, 1) := by decide +kernel
theorem d_K_fillRecord_6 : decode b_K_fillRecord 6 = .ok (.ifCond .le 19, 3) := by decide +kernel
theorem d_K_fillRecord_9 : decode b_K_fillRecord 9 = .ok (.aload_n 0, 1) := by decide +kernel
theorem d_K_fillRecord_10 : decode b_K_fillRecord 10 = .ok (.iconst 5, 1) := by decide +kernel
theorem d_K_fillRecord_11 : decode b_K_fillRecord 11 = .ok (.invokevirtual 72, 3) := by decide +kernel
theorem d_K_fillRecord_14 : decode b_K_fillRecord 14 = .ok (.ifCond .ne 11, 3) := by decide +kernel
theorem d_K_fillRecord_17 : decode b_K_fillRecord 17 = .ok (.aload_n 0, 1) := by decide +kernel
theorem d_K_fillRecord_18 : decode b_K_fillRecord 18 = .ok (.iload_n 1, 1) := by decide +kernel
theorem d_K_fillRecord_19 : decode b_K_fillRecord 19 = .ok (.invokevirtual 72, 3) := by decide +kernel
theorem d_K_fillRecord_22 : decode b_K_fillRecord 22 = .ok (.goto 4, 3) := by decide +kernel
theorem d_K_fillRecord_25 : decode b_K_fillRecord 25 = .ok (.iconst (-1), 1) := by decide +kernel
theorem d_K_fillRecord_26 : decode b_K_fillRecord 26 = .ok (.istore_n 2, 1) := by decide +kernel
theorem d_K_fillRecord_27 : decode b_K_fillRecord 27 = .ok (.iload_n 2, 1) := by decide +kernel
theorem d_K_fillRecord_28 : decode b_K_fillRecord 28 = .ok (.iconst (-1), 1) := by decide +kernel
theorem d_K_fillRecord_29 : decode b_K_fillRecord 29 = .ok (.if_icmp .ne 75, 3) := by decide +kernel
theorem d_K_fillRecord_32 : decode b_K_fillRecord 32 = .ok (.aload_n 0, 1) := by decide +kernel
theorem d_K_fillRecord_33 : decode b_K_fillRecord 33 = .ok (.bipush 7, 2) := by decide +kernel
theorem d_K_fillRecord_35 : decode b_K_fillRecord 35 = .ok (.invokevirtual 72, 3) := by decide +kernel
theorem d_K_fillRecord_38 : decode b_K_fillRecord 38 = .ok (.istore_n 3, 1) := by decide +kernel
theorem d_K_fillRecord_39 : decode b_K_fillRecord 39 = .ok (.aload_n 0, 1) := by decide +kernel
theorem d_K_fillRecord_40 : decode b_K_fillRecord 40 = .ok (.bipush 8, 2) := by decide +kernel
theorem d_K_fillRecord_42 : decode b_K_fillRecord 42 = .ok (.invokevirtual 72, 3) := by decide +kernel
theorem d_K_fillRecord_45 : decode b_K_fillRecord 45 = .ok (.ifCond .ne 7, 3) := by decide +kernel
theorem d_K_fillRecord_48 : decode b_K_fillRecord 48 = .ok (.iconst 0, 1) := by decide +kernel
theorem d_K_fillRecord_49 : decode b_K_fillRecord 49 = .ok (.goto 13, 3) := by decide +kernel
theorem d_K_fillRecord_52 : decode b_K_fillRecord 52 = .ok (.sipush 1900, 3) := by decide +kernel
theorem d_K_fillRecord_55 : decode b_K_fillRecord 55 = .ok (.aload_n 0, 1) := by decide +kernel
theorem d_K_fillRecord_56 : decode b_K_fillRecord 56 = .ok (.bipush 120, 2) := by decide +kernel
theorem d_K_fillRecord_58 : decode b_K_fillRecord 58 = .ok (.invokevirtual 72, 3) := by decide +kernel
theorem d_K_fillRecord_61 : decode b_K_fillRecord 61 = .ok (.iadd, 1) := by decide +kernel
theorem d_K_fillRecord_62 : decode b_K_fillRecord 62 = .ok (.istore 4, 2) := by decide +kernel
theorem d_K_fillRecord_64 : decode b_K_fillRecord 64 = .ok (.aload_n 0, 1) := by decide +kernel
theorem d_K_fillRecord_65 : decode b_K_fillRecord 65 = .ok (.iload_n 1, 1) := by decide +kernel
theorem d_K_fillRecord_66 : decode b_K_fillRecord 66 = .ok (.iload_n 3, 1) := by decide +kernel
theorem d_K_fillRecord_67 : decode b_K_fillRecord 67 = .ok (.iload 4, 2) := by decide +kernel
theorem d_K_fillRecord_69 : decode b_K_fillRecord 69 = .ok (.iconst (-1), 1) := by decide +kernel
theorem d_K_fillRecord_70 : decode b_K_fillRecord 70 = .ok (.invokevirtual 76, 3) := by decide +kernel
theorem d_K_fillRecord_73 : decode b_K_fillRecord 73 = .ok (.iconst 0, 1) := by decide +kernel
theorem d_K_fillRecord_74 : decode b_K_fillRecord 74 = .ok (.istore 5, 2) := by decide +kernel
theorem d_K_fillRecord_76 : decode b_K_fillRecord 76 = .ok (.iload 5, 2) := by decide +kernel
theorem d_K_fillRecord_78 : decode b_K_fillRecord 78 = .ok (.iload_n 3, 1) := by decide +kernel
theorem d_K_fillRecord_79 : decode b_K_fillRecord 79 = .ok (.if_icmp .ge 22, 3) := by decide +kernel
theorem d_K_fillRecord_82 : decode b_K_fillRecord 82 = .ok (.aload_n 0, 1) := by decide +kernel
theorem d_K_fillRecord_83 : decode b_K_fillRecord 83 = .ok (.bipush 97, 2) := by decide +kernel
theorem d_K_fillRecord_85 : decode b_K_fillRecord 85 = .ok (.aload_n 0, 1) := by decide +kernel
theorem d_K_fillRecord_86 : decode b_K_fillRecord 86 = .ok (.bipush 26, 2) := by decide +kernel
theorem d_K_fillRecord_88 : decode b_K_fillRecord 88 = .ok (.invokevirtual 72, 3) := by decide +kernel
theorem d_K_fillRecord_91 : decode b_K_fillRecord 91 = .ok (.iadd, 1) := by decide +kernel
theorem d_K_fillRecord_92 : decode b_K_fillRecord 92 = .ok (.invokevirtual 80, 3) := by decide +kernel
theorem d_K_fillRecord_95 : decode b_K_fillRecord 95 = .ok (.iinc 5 1, 3) := by decide +kernel
theorem d_K_fillRecord_98 : decode b_K_fillRecord 98 = .ok (.goto (-22), 3) := by decide +kernel
theorem d_K_fillRecord_101 : decode b_K_fillRecord 101 = .ok (.goto 26, 3) := by decide +kernel
theorem d_K_fillRecord_104 : decode b_K_fillRecord 104 = .ok (.aload_n 0, 1) := by decide +kernel
theorem d_K_fillRecord_105 : decode b_K_fillRecord 105 = .ok (.iload_n 1, 1) := by decide +kernel
theorem d_K_fillRecord_106 : decode b_K_fillRecord 106 = .ok (.aload_n 0, 1) := by decide +kernel
theorem d_K_fillRecord_107 : decode b_K_fillRecord 107 = .ok (.iload_n 2, 1) := by decide +kernel
theorem d_K_fillRecord_108 : decode b_K_fillRecord 108 = .ok (.iconst 0, 1) := by decide +kernel
theorem d_K_fillRecord_109 : decode b_K_fillRecord 109 = .ok (.invokevirtual 83, 3) := by decide +kernel
theorem d_K_fillRecord_112 : decode b_K_fillRecord 112 = .ok (.aload_n 0, 1) := by decide +kernel
theorem d_K_fillRecord_113 : decode b_K_fillRecord 113 = .ok (.iload_n 2, 1) := by decide +kernel
theorem d_K_fillRecord_114 : decode b_K_fillRecord 114 = .ok (.iconst 1, 1) := by decide +kernel
theorem d_K_fillRecord_115 : decode b_K_fillRecord 115 = .ok (.invokevirtual 83, 3) := by decide +kernel
theorem d_K_fillRecord_118 : decode b_K_fillRecord 118 = .ok (.iload_n 2, 1) := by decide +kernel
theorem d_K_fillRecord_119 : decode b_K_fillRecord 119 = .ok (.invokevirtual 76, 3) := by decide +kernel
theorem d_K_fillRecord_122 : decode b_K_fillRecord 122 = .ok (.aload_n 0, 1) := by decide +kernel
theorem d_K_fillRecord_123 : decode b_K_fillRecord 123 = .ok (.iload_n 2, 1) := by decide +kernel
theorem d_K_fillRecord_124 : decode b_K_fillRecord 124 = .ok (.invokevirtual 87, 3) := by decide +kernel
theorem d_K_fillRecord_127 : decode b_K_fillRecord 127 = .ok (.aload_n 0, 1) := by decide +kernel
theorem d_K_fillRecord_128 : decode b_K_fillRecord 128 = .ok (.bipush 10, 2) := by decide +kernel
theorem d_K_fillRecord_130 : decode b_K_fillRecord 130 = .ok (.invokevirtual 80, 3) := by decide +kernel
theorem d_K_fillRecord_133 : decode b_K_fillRecord 133 = .ok (.return_, 1) := by decide +kernel
theorem d_K_startTitle_0 : decode b_K_startTitle 0 = .ok (.aload_n 0, 1) := by decide +kernel
theorem d_K_startTitle_1 : decode b_K_startTitle 1 = .ok (.iload_n 1, 1) := by decide +kernel
theorem d_K_startTitle_2 : decode b_K_startTitle 2 = .ok (.invokevirtual 35, 3) := by decide +kernel
theorem d_K_startTitle_5 : decode b_K_startTitle 5 = .ok (.ifCond .eq 13, 3) := by decide +kernel
theorem d_K_startTitle_8 : decode b_K_startTitle 8 = .ok (.aload_n 0, 1) := by decide +kernel
theorem d_K_startTitle_9 : decode b_K_startTitle 9 = .ok (.getfield 18, 3) := by decide +kernel
theorem d_K_startTitle_12 : decode b_K_startTitle 12 = .ok (.iload_n 1, 1) := by decide +kernel
theorem d_K_startTitle_13 : decode b_K_startTitle 13 = .ok (.aload_n 0, 1) := by decide +kernel
theorem d_K_startTitle_14 : decode b_K_startTitle 14 = .ok (.getfield 32, 3) := by decide +kernel
theorem d_K_startTitle_17 : decode b_K_startTitle 17 = .ok (.iastore, 1) := by decide +kernel
theorem d_K_startTitle_18 : decode b_K_startTitle 18 = .ok (.return_, 1) := by decide +kernel
theorem d_K_has_0 : decode b_K_has 0 = .ok (.iload_n 1, 1) := by decide +kernel
theorem d_K_has_1 : decode b_K_has 1 = .ok (.ifCond .lt 21, 3) := by decide +kernel
theorem d_K_has_4 : decode b_K_has 4 = .ok (.iload_n 1, 1) := by decide +kernel
theorem d_K_has_5 : decode b_K_has 5 = .ok (.aload_n 0, 1) := by decide +kernel
theorem d_K_has_6 : decode b_K_has 6 = .ok (.getfield 29, 3) := by decide +kernel
theorem d_K_has_9 : decode b_K_has 9 = .ok (.if_icmp .ge 13, 3) := by decide +kernel
theorem d_K_has_12 : decode b_K_has 12 = .ok (.iload_n 1, 1) := by decide +kernel
theorem d_K_has_13 : decode b_K_has 13 = .ok (.bipush 21, 2) := by decide +kernel
theorem d_K_has_15 : decode b_K_has 15 = .ok (.if_icmp .ge 7, 3) := by decide +kernel
theorem d_K_has_18 : decode b_K_has 18 = .ok (.iconst 1, 1) := by decide +kernel
theorem d_K_has_19 : decode b_K_has 19 = .ok (.goto 4, 3) := by decide +kernel
theorem d_K_has_22 : decode b_K_has 22 = .ok (.iconst 0, 1) := by decide +kernel
theorem d_K_has_23 : decode b_K_has 23 = .ok (.ireturn, 1) := by decide +kernel
theorem d_K_next_0 : decode b_K_next 0 = .ok (.aload_n 0, 1) := by decide +kernel
theorem d_K_next_1 : decode b_K_next 1 = .ok (.aload_n 0, 1) := by decide +kernel
theorem d_K_next_2 : decode b_K_next 2 = .ok (.getfield 21, 3) := by decide +kernel
theorem d_K_next_5 : decode b_K_next 5 = .ok (.ldc2_w 102, 3) := by decide +kernel
theorem d_K_next_8 : decode b_K_next 8 = .ok (.lmul, 1) := by decide +kernel
theorem d_K_next_9 : decode b_K_next 9 = .ok (.ldc2_w 104, 3) := by decide +kernel
theorem d_K_next_12 : decode b_K_next 12 = .ok (.ladd, 1) := by decide +kernel
theorem d_K_next_13 : decode b_K_next 13 = .ok (.putfield 21, 3) := by decide +kernel
theorem d_K_next_16 : decode b_K_next 16 = .ok (.aload_n 0, 1) := by decide +kernel
theorem d_K_next_17 : decode b_K_next 17 = .ok (.getfield 21, 3) := by decide +kernel
theorem d_K_next_20 : decode b_K_next 20 = .ok (.bipush 33, 2) := by decide +kernel
theorem d_K_next_22 : decode b_K_next 22 = .ok (.lushr, 1) := by decide +kernel
theorem d_K_next_23 : decode b_K_next 23 = .ok (.l2i, 1) := by decide +kernel
theorem d_K_next_24 : decode b_K_next 24 = .ok (.istore_n 2, 1) := by decide +kernel
theorem d_K_next_25 : decode b_K_next 25 = .ok (.iload_n 1, 1) := by decide +kernel
theorem d_K_next_26 : decode b_K_next 26 = .ok (.iconst 1, 1) := by decide +kernel
theorem d_K_next_27 : decode b_K_next 27 = .ok (.if_icmp .ge 7, 3) := by decide +kernel
theorem d_K_next_30 : decode b_K_next 30 = .ok (.iconst 0, 1) := by decide +kernel
theorem d_K_next_31 : decode b_K_next 31 = .ok (.goto 6, 3) := by decide +kernel
theorem d_K_next_34 : decode b_K_next 34 = .ok (.iload_n 2, 1) := by decide +kernel
theorem d_K_next_35 : decode b_K_next 35 = .ok (.iload_n 1, 1) := by decide +kernel
theorem d_K_next_36 : decode b_K_next 36 = .ok (.irem, 1) := by decide +kernel
theorem d_K_next_37 : decode b_K_next 37 = .ok (.ireturn, 1) := by decide +kernel
theorem d_K_put_0 : decode b_K_put 0 = .ok (.aload_n 0, 1) := by decide +kernel
theorem d_K_put_1 : decode b_K_put 1 = .ok (.iload_n 1, 1) := by decide +kernel
theorem d_K_put_2 : decode b_K_put 2 = .ok (.invokevirtual 35, 3) := by decide +kernel
theorem d_K_put_5 : decode b_K_put 5 = .ok (.ifCond .eq 35, 3) := by decide +kernel
theorem d_K_put_8 : decode b_K_put 8 = .ok (.aload_n 0, 1) := by decide +kernel
theorem d_K_put_9 : decode b_K_put 9 = .ok (.getfield 9, 3) := by decide +kernel
theorem d_K_put_12 : decode b_K_put 12 = .ok (.iload_n 1, 1) := by decide +kernel
theorem d_K_put_13 : decode b_K_put 13 = .ok (.iconst 3, 1) := by decide +kernel
theorem d_K_put_14 : decode b_K_put 14 = .ok (.imul, 1) := by decide +kernel
theorem d_K_put_15 : decode b_K_put 15 = .ok (.iload_n 2, 1) := by decide +kernel
theorem d_K_put_16 : decode b_K_put 16 = .ok (.iastore, 1) := by decide +kernel
theorem d_K_put_17 : decode b_K_put 17 = .ok (.aload_n 0, 1) := by decide +kernel
theorem d_K_put_18 : decode b_K_put 18 = .ok (.getfield 9, 3) := by decide +kernel
theorem d_K_put_21 : decode b_K_put 21 = .ok (.iload_n 1, 1) := by decide +kernel
theorem d_K_put_22 : decode b_K_put 22 = .ok (.iconst 3, 1) := by decide +kernel
theorem d_K_put_23 : decode b_K_put 23 = .ok (.imul, 1) := by decide +kernel
theorem d_K_put_24 : decode b_K_put 24 = .ok (.iconst 1, 1) := by decide +kernel
theorem d_K_put_25 : decode b_K_put 25 = .ok (.iadd, 1) := by decide +kernel
theorem d_K_put_26 : decode b_K_put 26 = .ok (.iload_n 3, 1) := by decide +kernel
theorem d_K_put_27 : decode b_K_put 27 = .ok (.iastore, 1) := by decide +kernel
theorem d_K_put_28 : decode b_K_put 28 = .ok (.aload_n 0, 1) := by decide +kernel
theorem d_K_put_29 : decode b_K_put 29 = .ok (.getfield 9, 3) := by decide +kernel
theorem d_K_put_32 : decode b_K_put 32 = .ok (.iload_n 1, 1) := by decide +kernel
theorem d_K_put_33 : decode b_K_put 33 = .ok (.iconst 3, 1) := by decide +kernel
theorem d_K_put_34 : decode b_K_put 34 = .ok (.imul, 1) := by decide +kernel
theorem d_K_put_35 : decode b_K_put 35 = .ok (.iconst 2, 1) := by decide +kernel
theorem d_K_put_36 : decode b_K_put 36 = .ok (.iadd, 1) := by decide +kernel
theorem d_K_put_37 : decode b_K_put 37 = .ok (.iload 4, 2) := by decide +kernel
theorem d_K_put_39 : decode b_K_put 39 = .ok (.iastore, 1) := by decide +kernel
theorem d_K_put_40 : decode b_K_put 40 = .ok (.return_, 1) := by decide +kernel
theorem d_K_addSign_0 : decode b_K_addSign 0 = .ok (.aload_n 0, 1) := by decide +kernel
theorem d_K_addSign_1 : decode b_K_addSign 1 = .ok (.getfield 32, 3) := by decide +kernel
theorem d_K_addSign_4 : decode b_K_addSign 4 = .ok (.ifCond .lt 35, 3) := by decide +kernel
theorem d_K_addSign_7 : decode b_K_addSign 7 = .ok (.aload_n 0, 1) := by decide +kernel
theorem d_K_addSign_8 : decode b_K_addSign 8 = .ok (.getfield 32, 3) := by decide +kernel
theorem d_K_addSign_11 : decode b_K_addSign 11 = .ok (.aload_n 0, 1) := by decide +kernel
theorem d_K_addSign_12 : decode b_K_addSign 12 = .ok (.getfield 15, 3) := by decide +kernel
theorem d_K_addSign_15 : decode b_K_addSign 15 = .ok (.arraylength, 1) := by decide +kernel
theorem d_K_addSign_16 : decode b_K_addSign 16 = .ok (.if_icmp .ge 23, 3) := by decide +kernel
theorem d_K_addSign_19 : decode b_K_addSign 19 = .ok (.aload_n 0, 1) := by decide +kernel
theorem d_K_addSign_20 : decode b_K_addSign 20 = .ok (.getfield 15, 3) := by decide +kernel
theorem d_K_addSign_23 : decode b_K_addSign 23 = .ok (.aload_n 0, 1) := by decide +kernel
theorem d_K_addSign_24 : decode b_K_addSign 24 = .ok (.getfield 32, 3) := by decide +kernel
theorem d_K_addSign_27 : decode b_K_addSign 27 = .ok (.iload_n 1, 1) := by decide +kernel
theorem d_K_addSign_28 : decode b_K_addSign 28 = .ok (.iastore, 1) := by decide +kernel
theorem d_K_addSign_29 : decode b_K_addSign 29 = .ok (.aload_n 0, 1) := by decide +kernel
theorem d_K_addSign_30 : decode b_K_addSign 30 = .ok (.dup, 1) := by decide +kernel
theorem d_K_addSign_31 : decode b_K_addSign 31 = .ok (.getfield 32, 3) := by decide +kernel
theorem d_K_addSign_34 : decode b_K_addSign 34 = .ok (.iconst 1, 1) := by decide +kernel
theorem d_K_addSign_35 : decode b_K_addSign 35 = .ok (.iadd, 1) := by decide +kernel
theorem d_K_addSign_36 : decode b_K_addSign 36 = .ok (.putfield 32, 3) := by decide +kernel
theorem d_K_addSign_39 : decode b_K_addSign 39 = .ok (.return_, 1) := by decide +kernel
theorem d_K_number_0 : decode b_K_number 0 = .ok (.aload_n 0, 1) := by decide +kernel
theorem d_K_number_1 : decode b_K_number 1 = .ok (.iload_n 1, 1) := by decide +kernel
theorem d_K_number_2 : decode b_K_number 2 = .ok (.invokevirtual 35, 3) := by decide +kernel
theorem d_K_number_5 : decode b_K_number 5 = .ok (.ifCond .eq 12, 3) := by decide +kernel
theorem d_K_number_8 : decode b_K_number 8 = .ok (.iload_n 2, 1) := by decide +kernel
theorem d_K_number_9 : decode b_K_number 9 = .ok (.ifCond .lt 8, 3) := by decide +kernel
theorem d_K_number_12 : decode b_K_number 12 = .ok (.iload_n 2, 1) := by decide +kernel
theorem d_K_number_13 : decode b_K_number 13 = .ok (.iconst 3, 1) := by decide +kernel
theorem d_K_number_14 : decode b_K_number 14 = .ok (.if_icmp .lt 5, 3) := by decide +kernel
theorem d_K_number_17 : decode b_K_number 17 = .ok (.iconst (-1), 1) := by decide +kernel
theorem d_K_number_18 : decode b_K_number 18 = .ok (.ireturn, 1) := by decide +kernel
theorem d_K_number_19 : decode b_K_number 19 = .ok (.aload_n 0, 1) := by decide +kernel
theorem d_K_number_20 : decode b_K_number 20 = .ok (.getfield 9, 3) := by decide +kernel
theorem d_K_number_23 : decode b_K_number 23 = .ok (.iload_n 1, 1) := by decide +kernel
theorem d_K_number_24 : decode b_K_number 24 = .ok (.iconst 3, 1) := by decide +kernel
theorem d_K_number_25 : decode b_K_number 25 = .ok (.imul, 1) := by decide +kernel
theorem d_K_number_26 : decode b_K_number 26 = .ok (.iload_n 2, 1) := by decide +kernel
theorem d_K_number_27 : decode b_K_number 27 = .ok (.iadd, 1) := by decide +kernel
theorem d_K_number_28 : decode b_K_number 28 = .ok (.iaload, 1) := by decide +kernel
theorem d_K_number_29 : decode b_K_number 29 = .ok (.ireturn, 1) := by decide +kernel
theorem d_K_repeatTitle_0 : decode b_K_repeatTitle 0 = .ok (.aload_n 0, 1) := by decide +kernel
theorem d_K_repeatTitle_1 : decode b_K_repeatTitle 1 = .ok (.iload_n 1, 1) := by decide +kernel
theorem d_K_repeatTitle_2 : decode b_K_repeatTitle 2 = .ok (.invokevirtual 35, 3) := by decide +kernel
theorem d_K_repeatTitle_5 : decode b_K_repeatTitle 5 = .ok (.ifCond .ne 4, 3) := by decide +kernel
theorem d_K_repeatTitle_8 : decode b_K_repeatTitle 8 = .ok (.return_, 1) := by decide +kernel
theorem d_K_repeatTitle_9 : decode b_K_repeatTitle 9 = .ok (.aload_n 0, 1) := by decide +kernel
theorem d_K_repeatTitle_10 : decode b_K_repeatTitle 10 = .ok (.iload_n 1, 1) := by decide +kernel
theorem d_K_repeatTitle_11 : decode b_K_repeatTitle 11 = .ok (.iconst 0, 1) := by decide +kernel
theorem d_K_repeatTitle_12 : decode b_K_repeatTitle 12 = .ok (.invokevirtual 83, 3) := by decide +kernel
theorem d_K_repeatTitle_15 : decode b_K_repeatTitle 15 = .ok (.istore_n 2, 1) := by decide +kernel
theorem d_K_repeatTitle_16 : decode b_K_repeatTitle 16 = .ok (.iconst 0, 1) := by decide +kernel
theorem d_K_repeatTitle_17 : decode b_K_repeatTitle 17 = .ok (.istore_n 3, 1) := by decide +kernel
theorem d_K_repeatTitle_18 : decode b_K_repeatTitle 18 = .ok (.iload_n 3, 1) := by decide +kernel
theorem d_K_repeatTitle_19 : decode b_K_repeatTitle 19 = .ok (.iload_n 2, 1) := by decide +kernel
theorem d_K_repeatTitle_20 : decode b_K_repeatTitle 20 = .ok (.if_icmp .ge 25, 3) := by decide +kernel
theorem d_K_repeatTitle_23 : decode b_K_repeatTitle 23 = .ok (.aload_n 0, 1) := by decide +kernel
theorem d_K_repeatTitle_24 : decode b_K_repeatTitle 24 = .ok (.aload_n 0, 1) := by decide +kernel
theorem d_K_repeatTitle_25 : decode b_K_repeatTitle 25 = .ok (.aload_n 0, 1) := by decide +kernel
theorem d_K_repeatTitle_26 : decode b_K_repeatTitle 26 = .ok (.getfield 18, 3) := by decide +kernel
theorem d_K_repeatTitle_29 : decode b_K_repeatTitle 29 = .ok (.iload_n 1, 1) := by decide +kernel
theorem d_K_repeatTitle_30 : decode b_K_repeatTitle 30 = .ok (.iaload, 1) := by decide +kernel
theorem d_K_repeatTitle_31 : decode b_K_repeatTitle 31 = .ok (.iload_n 3, 1) := by decide +kernel
theorem d_K_repeatTitle_32 : decode b_K_repeatTitle 32 = .ok (.iadd, 1) := by decide +kernel
theorem d_K_repeatTitle_33 : decode b_K_repeatTitle 33 = .ok (.invokevirtual 90, 3) := by decide +kernel
theorem d_K_repeatTitle_36 : decode b_K_repeatTitle 36 = .ok (.invokevirtual 80, 3) := by decide +kernel
theorem d_K_repeatTitle_39 : decode b_K_repeatTitle 39 = .ok (.iinc 3 1, 3) := by decide +kernel
theorem d_K_repeatTitle_42 : decode b_K_repeatTitle 42 = .ok (.goto (-24), 3) := by decide +kernel
theorem d_K_repeatTitle_45 : decode b_K_repeatTitle 45 = .ok (.return_, 1) := by decide +kernel
theorem d_K_sign_0 : decode b_K_sign 0 = .ok (.iload_n 1, 1) := by decide +kernel
theorem d_K_sign_1 : decode b_K_sign 1 = .ok (.ifCond .lt 20, 3) := by decide +kernel
theorem d_K_sign_4 : decode b_K_sign 4 = .ok (.iload_n 1, 1) := by decide +kernel
theorem d_K_sign_5 : decode b_K_sign 5 = .ok (.aload_n 0, 1) := by decide +kernel
theorem d_K_sign_6 : decode b_K_sign 6 = .ok (.getfield 32, 3) := by decide +kernel
theorem d_K_sign_9 : decode b_K_sign 9 = .ok (.if_icmp .ge 12, 3) := by decide +kernel
theorem d_K_sign_12 : decode b_K_sign 12 = .ok (.iload_n 1, 1) := by decide +kernel
theorem d_K_sign_13 : decode b_K_sign 13 = .ok (.aload_n 0, 1) := by decide +kernel
theorem d_K_sign_14 : decode b_K_sign 14 = .ok (.getfield 15, 3) := by decide +kernel
theorem d_K_sign_17 : decode b_K_sign 17 = .ok (.arraylength, 1) := by decide +kernel
theorem d_K_sign_18 : decode b_K_sign 18 = .ok (.if_icmp .lt 5, 3) := by decide +kernel
theorem d_K_sign_21 : decode b_K_sign 21 = .ok (.iconst (-1), 1) := by decide +kernel
theorem d_K_sign_22 : decode b_K_sign 22 = .ok (.ireturn, 1) := by decide +kernel
theorem d_K_sign_23 : decode b_K_sign 23 = .ok (.aload_n 0, 1) := by decide +kernel
theorem d_K_sign_24 : decode b_K_sign 24 = .ok (.getfield 15, 3) := by decide +kernel
theorem d_K_sign_27 : decode b_K_sign 27 = .ok (.iload_n 1, 1) := by decide +kernel
theorem d_K_sign_28 : decode b_K_sign 28 = .ok (.iaload, 1) := by decide +kernel
theorem d_K_sign_29 : decode b_K_sign 29 = .ok (.ireturn, 1) := by decide +kernel
theorem d_K_fillFile_0 : decode b_K_fillFile 0 = .ok (.iload_n 1, 1) := by decide +kernel
theorem d_K_fillFile_1 : decode b_K_fillFile 1 = .ok (.iconst 2, 1) := by decide +kernel
theorem d_K_fillFile_2 : decode b_K_fillFile 2 = .ok (.irem, 1) := by decide +kernel
theorem d_K_fillFile_3 : decode b_K_fillFile 3 = .ok (.ifCond .ne 11, 3) := by decide +kernel
theorem d_K_fillFile_6 : decode b_K_fillFile 6 = .ok (.aload_n 0, 1) := by decide +kernel
theorem d_K_fillFile_7 : decode b_K_fillFile 7 = .ok (.iload_n 1, 1) := by decide +kernel
theorem d_K_fillFile_8 : decode b_K_fillFile 8 = .ok (.invokevirtual 93, 3) := by decide +kernel
theorem d_K_fillFile_11 : decode b_K_fillFile 11 = .ok (.goto 8, 3) := by decide +kernel
theorem d_K_fillFile_14 : decode b_K_fillFile 14 = .ok (.aload_n 0, 1) := by decide +kernel
theorem d_K_fillFile_15 : decode b_K_fillFile 15 = .ok (.iload_n 1, 1) := by decide +kernel
theorem d_K_fillFile_16 : decode b_K_fillFile 16 = .ok (.invokevirtual 96, 3) := by decide +kernel
theorem d_K_fillFile_19 : decode b_K_fillFile 19 = .ok (.return_, 1) := by decide +kernel
theorem d_K_fillFileWithWinner_0 : decode b_K_fillFileWithWinner 0 = .ok (.iconst 1, 1) := by decide +kernel
theorem d_K_fillFileWithWinner_1 : decode b_K_fillFileWithWinner 1 = .ok (.aload_n 0, 1) := by decide +kernel
theorem d_K_fillFileWithWinner_2 : decode b_K_fillFileWithWinner 2 = .ok (.iconst 5, 1) := by decide +kernel
theorem d_K_fillFileWithWinner_3 : decode b_K_fillFileWithWinner 3 = .ok (.invokevirtual 72, 3) := by decide +kernel
theorem d_K_fillFileWithWinner_6 : decode b_K_fillFileWithWinner 6 = .ok (.iadd, 1) := by decide +kernel
theorem d_K_fillFileWithWinner_7 : decode b_K_fillFileWithWinner 7 = .ok (.istore_n 2, 1) := by decide +kernel
theorem d_K_fillFileWithWinner_8 : decode b_K_fillFileWithWinner 8 = .ok (.aload_n 0, 1) := by decide +kernel
theorem d_K_fillFileWithWinner_9 : decode b_K_fillFileWithWinner 9 = .ok (.iconst 3, 1) := by decide +kernel
theorem d_K_fillFileWithWinner_10 : decode b_K_fillFileWithWinner 10 = .ok (.invokevirtual 72, 3) := by decide +kernel
theorem d_K_fillFileWithWinner_13 : decode b_K_fillFileWithWinner 13 = .ok (.istore_n 3, 1) := by decide +kernel
theorem d_K_fillFileWithWinner_14 : decode b_K_fillFileWithWinner 14 = .ok (.iload_n 2, 1) := by decide +kernel
theorem d_K_fillFileWithWinner_15 : decode b_K_fillFileWithWinner 15 = .ok (.iconst 2, 1) := by decide +kernel
theorem d_K_fillFileWithWinner_16 : decode b_K_fillFileWithWinner 16 = .ok (.idiv, 1) := by decide +kernel
theorem d_K_fillFileWithWinner_17 : decode b_K_fillFileWithWinner 17 = .ok (.iconst 1, 1) := by decide +kernel
theorem d_K_fillFileWithWinner_18 : decode b_K_fillFileWithWinner 18 = .ok (.iadd, 1) := by decide +kernel
theorem d_K_fillFileWithWinner_19 : decode b_K_fillFileWithWinner 19 = .ok (.istore 4, 2) := by decide +kernel
theorem d_K_fillFileWithWinner_21 : decode b_K_fillFileWithWinner 21 = .ok (.iconst 0, 1) := by decide +kernel
theorem d_K_fillFileWithWinner_22 : decode b_K_fillFileWithWinner 22 = .ok (.istore 5, 2) := by decide +kernel
theorem d_K_fillFileWithWinner_24 : decode b_K_fillFileWithWinner 24 = .ok (.iconst 0, 1) := by decide +kernel
theorem d_K_fillFileWithWinner_25 : decode b_K_fillFileWithWinner 25 = .ok (.istore 6, 2) := by decide +kernel
theorem d_K_fillFileWithWinner_27 : decode b_K_fillFileWithWinner 27 = .ok (.iload 6, 2) := by decide +kernel
theorem d_K_fillFileWithWinner_29 : decode b_K_fillFileWithWinner 29 = .ok (.iload_n 2, 1) := by decide +kernel
theorem d_K_fillFileWithWinner_30 : decode b_K_fillFileWithWinner 30 = .ok (.if_icmp .ge 39, 3) := by decide +kernel
theorem d_K_fillFileWithWinner_33 : decode b_K_fillFileWithWinner 33 = .ok (.iload 6, 2) := by decide +kernel
theorem d_K_fillFileWithWinner_35 : decode b_K_fillFileWithWinner 35 = .ok (.iload 4, 2) := by decide +kernel
theorem d_K_fillFileWithWinner_37 : decode b_K_fillFileWithWinner 37 = .ok (.if_icmp .ge 7, 3) := by decide +kernel
theorem d_K_fillFileWithWinner_40 : decode b_K_fillFileWithWinner 40 = .ok (.iload_n 3, 1) := by decide +kernel
theorem d_K_fillFileWithWinner_41 : decode b_K_fillFileWithWinner 41 = .ok (.goto 8, 3) := by decide +kernel
theorem d_K_fillFileWithWinner_44 : decode b_K_fillFileWithWinner 44 = .ok (.aload_n 0, 1) := by decide +kernel
theorem d_K_fillFileWithWinner_45 : decode b_K_fillFileWithWinner 45 = .ok (.iconst 3, 1) := by decide +kernel
theorem d_K_fillFileWithWinner_46 : decode b_K_fillFileWithWinner 46 = .ok (.invokevirtual 72, 3) := by decide +kernel
theorem d_K_fillFileWithWinner_49 : decode b_K_fillFileWithWinner 49 = .ok (.istore 7, 2) := by decide +kernel
theorem d_K_fillFileWithWinner_51 : decode b_K_fillFileWithWinner 51 = .ok (.iload 5, 2) := by decide +kernel
theorem d_K_fillFileWithWinner_53 : decode b_K_fillFileWithWinner 53 = .ok (.iload 7, 2) := by decide +kernel
theorem d_K_fillFileWithWinner_55 : decode b_K_fillFileWithWinner 55 = .ok (.iconst 2, 1) := by decide +kernel
theorem d_K_fillFileWithWinner_56 : decode b_K_fillFileWithWinner 56 = .ok (.iload 6, 2) := by decide +kernel
theorem d_K_fillFileWithWinner_58 : decode b_K_fillFileWithWinner 58 = .ok (.imul, 1) := by decide +kernel
theorem d_K_fillFileWithWinner_59 : decode b_K_fillFileWithWinner 59 = .ok (.ishl, 1) := by decide +kernel
theorem d_K_fillFileWithWinner_60 : decode b_K_fillFileWithWinner 60 = .ok (.iadd, 1) := by decide +kernel
theorem d_K_fillFileWithWinner_61 : decode b_K_fillFileWithWinner 61 = .ok (.istore 5, 2) := by decide +kernel
theorem d_K_fillFileWithWinner_63 : decode b_K_fillFileWithWinner 63 = .ok (.iinc 6 1, 3) := by decide +kernel
theorem d_K_fillFileWithWinner_66 : decode b_K_fillFileWithWinner 66 = .ok (.goto (-39), 3) := by decide +kernel
theorem d_K_fillFileWithWinner_69 : decode b_K_fillFileWithWinner 69 = .ok (.aload_n 0, 1) := by decide +kernel
theorem d_K_fillFileWithWinner_70 : decode b_K_fillFileWithWinner 70 = .ok (.iload_n 1, 1) := by decide +kernel
theorem d_K_fillFileWithWinner_71 : decode b_K_fillFileWithWinner 71 = .ok (.iload_n 2, 1) := by decide +kernel
theorem d_K_fillFileWithWinner_72 : decode b_K_fillFileWithWinner 72 = .ok (.iload 5, 2) := by decide +kernel
theorem d_K_fillFileWithWinner_74 : decode b_K_fillFileWithWinner 74 = .ok (.iconst 0, 1) := by decide +kernel
theorem d_K_fillFileWithWinner_75 : decode b_K_fillFileWithWinner 75 = .ok (.invokevirtual 76, 3) := by decide +kernel
theorem d_K_fillFileWithWinner_78 : decode b_K_fillFileWithWinner 78 = .ok (.return_, 1) := by decide +kernel
theorem d_K_fillFileWithoutWinner_0 : decode b_K_fillFileWithoutWinner 0 = .ok (.iconst 2, 1) := by decide +kernel
theorem d_K_fillFileWithoutWinner_1 : decode b_K_fillFileWithoutWinner 1 = .ok (.aload_n 0, 1) := by decide +kernel
theorem d_K_fillFileWithoutWinner_2 : decode b_K_fillFileWithoutWinner 2 = .ok (.iconst 4, 1) := by decide +kernel
theorem d_K_fillFileWithoutWinner_3 : decode b_K_fillFileWithoutWinner 3 = .ok (.invokevirtual 72, 3) := by decide +kernel
theorem d_K_fillFileWithoutWinner_6 : decode b_K_fillFileWithoutWinner 6 = .ok (.iadd, 1) := by decide +kernel
theorem d_K_fillFileWithoutWinner_7 : decode b_K_fillFileWithoutWinner 7 = .ok (.istore_n 2, 1) := by decide +kernel
theorem d_K_fillFileWithoutWinner_8 : decode b_K_fillFileWithoutWinner 8 = .ok (.aload_n 0, 1) := by decide +kernel
theorem d_K_fillFileWithoutWinner_9 : decode b_K_fillFileWithoutWinner 9 = .ok (.iconst 3, 1) := by decide +kernel
theorem d_K_fillFileWithoutWinner_10 : decode b_K_fillFileWithoutWinner 10 = .ok (.invokevirtual 72, 3) := by decide +kernel
theorem d_K_fillFileWithoutWinner_13 : decode b_K_fillFileWithoutWinner 13 = .ok (.istore_n 3, 1) := by decide +kernel
theorem d_K_fillFileWithoutWinner_14 : decode b_K_fillFileWithoutWinner 14 = .ok (.iconst 0, 1) := by decide +kernel
theorem d_K_fillFileWithoutWinner_15 : decode b_K_fillFileWithoutWinner 15 = .ok (.istore 4, 2) := by decide +kernel
theorem d_K_fillFileWithoutWinner_17 : decode b_K_fillFileWithoutWinner 17 = .ok (.iconst 0, 1) := by decide +kernel
theorem d_K_fillFileWithoutWinner_18 : decode b_K_fillFileWithoutWinner 18 = .ok (.istore 5, 2) := by decide +kernel
theorem d_K_fillFileWithoutWinner_20 : decode b_K_fillFileWithoutWinner 20 = .ok (.iload 5, 2) := by decide +kernel
theorem d_K_fillFileWithoutWinner_22 : decode b_K_fillFileWithoutWinner 22 = .ok (.iload_n 2, 1) := by decide +kernel
theorem d_K_fillFileWithoutWinner_23 : decode b_K_fillFileWithoutWinner 23 = .ok (.if_icmp .ge 33, 3) := by decide +kernel
theorem d_K_fillFileWithoutWinner_26 : decode b_K_fillFileWithoutWinner 26 = .ok (.iload 4, 2) := by decide +kernel
theorem d_K_fillFileWithoutWinner_28 : decode b_K_fillFileWithoutWinner 28 = .ok (.iload_n 3, 1) := by decide +kernel
theorem d_K_fillFileWithoutWinner_29 : decode b_K_fillFileWithoutWinner 29 = .ok (.iconst 2, 1) := by decide +kernel
theorem d_K_fillFileWithoutWinner_30 : decode b_K_fillFileWithoutWinner 30 = .ok (.iload 5, 2) := by decide +kernel
theorem d_K_fillFileWithoutWinner_32 : decode b_K_fillFileWithoutWinner 32 = .ok (.imul, 1) := by decide +kernel
theorem d_K_fillFileWithoutWinner_33 : decode b_K_fillFileWithoutWinner 33 = .ok (.ishl, 1) := by decide +kernel
theorem d_K_fillFileWithoutWinner_34 : decode b_K_fillFileWithoutWinner 34 = .ok (.iadd, 1) := by decide +kernel
theorem d_K_fillFileWithoutWinner_35 : decode b_K_fillFileWithoutWinner 35 = .ok (.istore 4, 2) := by decide +kernel
theorem d_K_fillFileWithoutWinner_37 : decode b_K_fillFileWithoutWinner 37 = .ok (.iload_n 3, 1) := by decide +kernel
theorem d_K_fillFileWithoutWinner_38 : decode b_K_fillFileWithoutWinner 38 = .ok (.iconst 2, 1) := by decide +kernel
theorem d_K_fillFileWithoutWinner_39 : decode b_K_fillFileWithoutWinner 39 = .ok (.if_icmp .ne 7, 3) := by decide +kernel
theorem d_K_fillFileWithoutWinner_42 : decode b_K_fillFileWithoutWinner 42 = .ok (.iconst 0, 1) := by decide +kernel
theorem d_K_fillFileWithoutWinner_43 : decode b_K_fillFileWithoutWinner 43 = .ok (.goto 6, 3) := by decide +kernel
theorem d_K_fillFileWithoutWinner_46 : decode b_K_fillFileWithoutWinner 46 = .ok (.iload_n 3, 1) := by decide +kernel
theorem d_K_fillFileWithoutWinner_47 : decode b_K_fillFileWithoutWinner 47 = .ok (.iconst 1, 1) := by decide +kernel
theorem d_K_fillFileWithoutWinner_48 : decode b_K_fillFileWithoutWinner 48 = .ok (.iadd, 1) := by decide +kernel
theorem d_K_fillFileWithoutWinner_49 : decode b_K_fillFileWithoutWinner 49 = .ok (.istore_n 3, 1) := by decide +kernel
theorem d_K_fillFileWithoutWinner_50 : decode b_K_fillFileWithoutWinner 50 = .ok (.iinc 5 1, 3) := by decide +kernel
theorem d_K_fillFileWithoutWinner_53 : decode b_K_fillFileWithoutWinner 53 = .ok (.goto (-33), 3) := by decide +kernel
theorem d_K_fillFileWithoutWinner_56 : decode b_K_fillFileWithoutWinner 56 = .ok (.aload_n 0, 1) := by decide +kernel
theorem d_K_fillFileWithoutWinner_57 : decode b_K_fillFileWithoutWinner 57 = .ok (.iload_n 1, 1) := by decide +kernel
theorem d_K_fillFileWithoutWinner_58 : decode b_K_fillFileWithoutWinner 58 = .ok (.iload_n 2, 1) := by decide +kernel
theorem d_K_fillFileWithoutWinner_59 : decode b_K_fillFileWithoutWinner 59 = .ok (.iload 4, 2) := by decide +kernel
theorem d_K_fillFileWithoutWinner_61 : decode b_K_fillFileWithoutWinner 61 = .ok (.iconst 0, 1) := by decide +kernel
theorem d_K_fillFileWithoutWinner_62 : decode b_K_fillFileWithoutWinner 62 = .ok (.invokevirtual 76, 3) := by decide +kernel
theorem d_K_fillFileWithoutWinner_65 : decode b_K_fillFileWithoutWinner 65 = .ok (.return_, 1) := by decide +kernel
theorem d_K_fillPattern_0 : decode b_K_fillPattern 0 = .ok (.aload_n 0, 1) := by decide +kernel
theorem d_K_fillPattern_1 : decode b_K_fillPattern 1 = .ok (.sipush 1000, 3) := by decide +kernel
theorem d_K_fillPattern_4 : decode b_K_fillPattern 4 = .ok (.invokevirtual 72, 3) := by decide +kernel
theorem d_K_fillPattern_7 : decode b_K_fillPattern 7 = .ok (.istore_n 2, 1) := by decide +kernel
theorem d_K_fillPattern_8 : decode b_K_fillPattern 8 = .ok (.iconst 1, 1) := by decide +kernel
theorem d_K_fillPattern_9 : decode b_K_fillPattern 9 = .ok (.aload_n 0, 1) := by decide +kernel
theorem d_K_fillPattern_10 : decode b_K_fillPattern 10 = .ok (.bipush 60, 2) := by decide +kernel
theorem d_K_fillPattern_12 : decode b_K_fillPattern 12 = .ok (.invokevirtual 72, 3) := by decide +kernel
theorem d_K_fillPattern_15 : decode b_K_fillPattern 15 = .ok (.iadd, 1) := by decide +kernel
theorem d_K_fillPattern_16 : decode b_K_fillPattern 16 = .ok (.istore_n 3, 1) := by decide +kernel
theorem d_K_fillPattern_17 : decode b_K_fillPattern 17 = .ok (.iload_n 3, 1) := by decide +kernel
theorem d_K_fillPattern_18 : decode b_K_fillPattern 18 = .ok (.iconst 1, 1) := by decide +kernel
theorem d_K_fillPattern_19 : decode b_K_fillPattern 19 = .ok (.if_icmp .ge 7, 3) := by decide +kernel
theorem d_K_fillPattern_22 : decode b_K_fillPattern 22 = .ok (.iconst 0, 1) := by decide +kernel
theorem d_K_fillPattern_23 : decode b_K_fillPattern 23 = .ok (.goto 10, 3) := by decide +kernel
theorem d_K_fillPattern_26 : decode b_K_fillPattern 26 = .ok (.sipush 1500, 3) := by decide +kernel
theorem d_K_fillPattern_29 : decode b_K_fillPattern 29 = .ok (.iload_n 2, 1) := by decide +kernel
theorem d_K_fillPattern_30 : decode b_K_fillPattern 30 = .ok (.isub, 1) := by decide +kernel
theorem d_K_fillPattern_31 : decode b_K_fillPattern 31 = .ok (.iload_n 3, 1) := by decide +kernel
theorem d_K_fillPattern_32 : decode b_K_fillPattern 32 = .ok (.idiv, 1) := by decide +kernel
theorem d_K_fillPattern_33 : decode b_K_fillPattern 33 = .ok (.istore 4, 2) := by decide +kernel
theorem d_K_fillPattern_35 : decode b_K_fillPattern 35 = .ok (.aload_n 0, 1) := by decide +kernel
theorem d_K_fillPattern_36 : decode b_K_fillPattern 36 = .ok (.iload_n 1, 1) := by decide +kernel
theorem d_K_fillPattern_37 : decode b_K_fillPattern 37 = .ok (.iload_n 2, 1) := by decide +kernel
theorem d_K_fillPattern_38 : decode b_K_fillPattern 38 = .ok (.iload_n 3, 1) := by decide +kernel
theorem d_K_fillPattern_39 : decode b_K_fillPattern 39 = .ok (.iconst 1, 1) := by decide +kernel
theorem d_K_fillPattern_40 : decode b_K_fillPattern 40 = .ok (.aload_n 0, 1) := by decide +kernel
theorem d_K_fillPattern_41 : decode b_K_fillPattern 41 = .ok (.iload 4, 2) := by decide +kernel
theorem d_K_fillPattern_43 : decode b_K_fillPattern 43 = .ok (.iconst 1, 1) := by decide +kernel
theorem d_K_fillPattern_44 : decode b_K_fillPattern 44 = .ok (.iadd, 1) := by decide +kernel
theorem d_K_fillPattern_45 : decode b_K_fillPattern 45 = .ok (.invokevirtual 72, 3) := by decide +kernel
theorem d_K_fillPattern_48 : decode b_K_fillPattern 48 = .ok (.iadd, 1) := by decide +kernel
theorem d_K_fillPattern_49 : decode b_K_fillPattern 49 = .ok (.invokevirtual 76, 3) := by decide +kernel
theorem d_K_fillPattern_52 : decode b_K_fillPattern 52 = .ok (.return_, 1) := by decide +kernel
theorem d_K_fillLine_0 : decode b_K_fillLine 0 = .ok (.iconst 1, 1) := by decide +kernel
theorem d_K_fillLine_1 : decode b_K_fillLine 1 = .ok (.aload_n 0, 1) := by decide +kernel
theorem d_K_fillLine_2 : decode b_K_fillLine 2 = .ok (.bipush 9, 2) := by decide +kernel
theorem d_K_fillLine_4 : decode b_K_fillLine 4 = .ok (.invokevirtual 72, 3) := by decide +kernel
theorem d_K_fillLine_7 : decode b_K_fillLine 7 = .ok (.iadd, 1) := by decide +kernel
theorem d_K_fillLine_8 : decode b_K_fillLine 8 = .ok (.istore_n 2, 1) := by decide +kernel
theorem d_K_fillLine_9 : decode b_K_fillLine 9 = .ok (.aload_n 0, 1) := by decide +kernel
theorem d_K_fillLine_10 : decode b_K_fillLine 10 = .ok (.sipush 1000, 3) := by decide +kernel
theorem d_K_fillLine_13 : decode b_K_fillLine 13 = .ok (.invokevirtual 72, 3) := by decide +kernel
theorem d_K_fillLine_16 : decode b_K_fillLine 16 = .ok (.istore_n 3, 1) := by decide +kernel
theorem d_K_fillLine_17 : decode b_K_fillLine 17 = .ok (.aload_n 0, 1) := by decide +kernel
theorem d_K_fillLine_18 : decode b_K_fillLine 18 = .ok (.iconst 4, 1) := by decide +kernel
theorem d_K_fillLine_19 : decode b_K_fillLine 19 = .ok (.invokevirtual 72, 3) := by decide +kernel
theorem d_K_fillLine_22 : decode b_K_fillLine 22 = .ok (.ifCond .ne 13, 3) := by decide +kernel
theorem d_K_fillLine_25 : decode b_K_fillLine 25 = .ok (.iconst 1, 1) := by decide +kernel
theorem d_K_fillLine_26 : decode b_K_fillLine 26 = .ok (.aload_n 0, 1) := by decide +kernel
theorem d_K_fillLine_27 : decode b_K_fillLine 27 = .ok (.iconst 3, 1) := by decide +kernel
theorem d_K_fillLine_28 : decode b_K_fillLine 28 = .ok (.invokevirtual 72, 3) := by decide +kernel
theorem d_K_fillLine_31 : decode b_K_fillLine 31 = .ok (.iadd, 1) := by decide +kernel
theorem d_K_fillLine_32 : decode b_K_fillLine 32 = .ok (.goto 4, 3) := by decide +kernel
theorem d_K_fillLine_35 : decode b_K_fillLine 35 = .ok (.iconst 0, 1) := by decide +kernel
theorem d_K_fillLine_36 : decode b_K_fillLine 36 = .ok (.istore 4, 2) := by decide +kernel
theorem d_K_fillLine_38 : decode b_K_fillLine 38 = .ok (.aload_n 0, 1) := by decide +kernel
theorem d_K_fillLine_39 : decode b_K_fillLine 39 = .ok (.iload_n 1, 1) := by decide +kernel
theorem d_K_fillLine_40 : decode b_K_fillLine 40 = .ok (.iload_n 2, 1) := by decide +kernel
theorem d_K_fillLine_41 : decode b_K_fillLine 41 = .ok (.iload_n 3, 1) := by decide +kernel
theorem d_K_fillLine_42 : decode b_K_fillLine 42 = .ok (.iload 4, 2) := by decide +kernel
theorem d_K_fillLine_44 : decode b_K_fillLine 44 = .ok (.invokevirtual 76, 3) := by decide +kernel
theorem d_K_fillLine_47 : decode b_K_fillLine 47 = .ok (.return_, 1) := by decide +kernel
theorem d_K_fillReader_0 : decode b_K_fillReader 0 = .ok (.aload_n 0, 1) := by decide +kernel
theorem d_K_fillReader_1 : decode b_K_fillReader 1 = .ok (.iconst 5, 1) := by decide +kernel
theorem d_K_fillReader_2 : decode b_K_fillReader 2 = .ok (.invokevirtual 72, 3) := by decide +kernel
theorem d_K_fillReader_5 : decode b_K_fillReader 5 = .ok (.istore_n 2, 1) := by decide +kernel
theorem d_K_fillReader_6 : decode b_K_fillReader 6 = .ok (.iload_n 1, 1) := by decide +kernel
theorem d_K_fillReader_7 : decode b_K_fillReader 7 = .ok (.ifCond .le 19, 3) := by decide +kernel
theorem d_K_fillReader_10 : decode b_K_fillReader 10 = .ok (.aload_n 0, 1) := by decide +kernel
theorem d_K_fillReader_11 : decode b_K_fillReader 11 = .ok (.iconst 3, 1) := by decide +kernel
theorem d_K_fillReader_12 : decode b_K_fillReader 12 = .ok (.invokevirtual 72, 3) := by decide +kernel
theorem d_K_fillReader_15 : decode b_K_fillReader 15 = .ok (.ifCond .ne 11, 3) := by decide +kernel
theorem d_K_fillReader_18 : decode b_K_fillReader 18 = .ok (.aload_n 0, 1) := by decide +kernel
theorem d_K_fillReader_19 : decode b_K_fillReader 19 = .ok (.iload_n 1, 1) := by decide +kernel
theorem d_K_fillReader_20 : decode b_K_fillReader 20 = .ok (.invokevirtual 72, 3) := by decide +kernel
theorem d_K_fillReader_23 : decode b_K_fillReader 23 = .ok (.goto 4, 3) := by decide +kernel
theorem d_K_fillReader_26 : decode b_K_fillReader 26 = .ok (.iconst (-1), 1) := by decide +kernel
theorem d_K_fillReader_27 : decode b_K_fillReader 27 = .ok (.istore_n 3, 1) := by decide +kernel
theorem d_K_fillReader_28 : decode b_K_fillReader 28 = .ok (.iload_n 3, 1) := by decide +kernel
theorem d_K_fillReader_29 : decode b_K_fillReader 29 = .ok (.iconst (-1), 1) := by decide +kernel
theorem d_K_fillReader_30 : decode b_K_fillReader 30 = .ok (.if_icmp .eq 15, 3) := by decide +kernel
theorem d_K_fillReader_33 : decode b_K_fillReader 33 = .ok (.aload_n 0, 1) := by decide +kernel
theorem d_K_fillReader_34 : decode b_K_fillReader 34 = .ok (.iload_n 3, 1) := by decide +kernel
theorem d_K_fillReader_35 : decode b_K_fillReader 35 = .ok (.iconst 1, 1) := by decide +kernel
theorem d_K_fillReader_36 : decode b_K_fillReader 36 = .ok (.invokevirtual 83, 3) := by decide +kernel
theorem d_K_fillReader_39 : decode b_K_fillReader 39 = .ok (.iconst (-1), 1) := by decide +kernel
theorem d_K_fillReader_40 : decode b_K_fillReader 40 = .ok (.if_icmp .eq 5, 3) := by decide +kernel
theorem d_K_fillReader_43 : decode b_K_fillReader 43 = .ok (.iconst (-1), 1) := by decide +kernel
theorem d_K_fillReader_44 : decode b_K_fillReader 44 = .ok (.istore_n 3, 1) := by decide +kernel
theorem d_K_fillReader_45 : decode b_K_fillReader 45 = .ok (.aload_n 0, 1) := by decide +kernel
theorem d_K_fillReader_46 : decode b_K_fillReader 46 = .ok (.iload_n 1, 1) := by decide +kernel
theorem d_K_fillReader_47 : decode b_K_fillReader 47 = .ok (.iload_n 2, 1) := by decide +kernel
theorem d_K_fillReader_48 : decode b_K_fillReader 48 = .ok (.iload_n 3, 1) := by decide +kernel
theorem d_K_fillReader_49 : decode b_K_fillReader 49 = .ok (.bipush 100, 2) := by decide +kernel
theorem d_K_fillReader_51 : decode b_K_fillReader 51 = .ok (.bipush 10, 2) := by decide +kernel
theorem d_K_fillReader_53 : decode b_K_fillReader 53 = .ok (.iload_n 1, 1) := by decide +kernel
theorem d_K_fillReader_54 : decode b_K_fillReader 54 = .ok (.imul, 1) := by decide +kernel
theorem d_K_fillReader_55 : decode b_K_fillReader 55 = .ok (.iadd, 1) := by decide +kernel
theorem d_K_fillReader_56 : decode b_K_fillReader 56 = .ok (.aload_n 0, 1) := by decide +kernel
theorem d_K_fillReader_57 : decode b_K_fillReader 57 = .ok (.bipush 10, 2) := by decide +kernel
theorem d_K_fillReader_59 : decode b_K_fillReader 59 = .ok (.invokevirtual 72, 3) := by decide +kernel
theorem d_K_fillReader_62 : decode b_K_fillReader 62 = .ok (.iadd, 1) := by decide +kernel
theorem d_K_fillReader_63 : decode b_K_fillReader 63 = .ok (.invokevirtual 76, 3) := by decide +kernel
theorem d_K_fillReader_66 : decode b_K_fillReader 66 = .ok (.return_, 1) := by decide +kernel
theorem d_K_fillAct_0 : decode b_K_fillAct 0 = .ok (.aload_n 0, 1) := by decide +kernel
theorem d_K_fillAct_1 : decode b_K_fillAct 1 = .ok (.bipush 6, 2) := by decide +kernel
theorem d_K_fillAct_3 : decode b_K_fillAct 3 = .ok (.invokevirtual 72, 3) := by decide +kernel
theorem d_K_fillAct_6 : decode b_K_fillAct 6 = .ok (.istore_n 2, 1) := by decide +kernel
theorem d_K_fillAct_7 : decode b_K_fillAct 7 = .ok (.aload_n 0, 1) := by decide +kernel
theorem d_K_fillAct_8 : decode b_K_fillAct 8 = .ok (.aload_n 0, 1) := by decide +kernel
theorem d_K_fillAct_9 : decode b_K_fillAct 9 = .ok (.getfield 29, 3) := by decide +kernel
theorem d_K_fillAct_12 : decode b_K_fillAct 12 = .ok (.invokevirtual 72, 3) := by decide +kernel
theorem d_K_fillAct_15 : decode b_K_fillAct 15 = .ok (.istore_n 3, 1) := by decide +kernel
theorem d_K_fillAct_16 : decode b_K_fillAct 16 = .ok (.aload_n 0, 1) := by decide +kernel
theorem d_K_fillAct_17 : decode b_K_fillAct 17 = .ok (.iload_n 1, 1) := by decide +kernel
theorem d_K_fillAct_18 : decode b_K_fillAct 18 = .ok (.iload_n 2, 1) := by decide +kernel
theorem d_K_fillAct_19 : decode b_K_fillAct 19 = .ok (.iload_n 3, 1) := by decide +kernel
theorem d_K_fillAct_20 : decode b_K_fillAct 20 = .ok (.aload_n 0, 1) := by decide +kernel
theorem d_K_fillAct_21 : decode b_K_fillAct 21 = .ok (.iload_n 1, 1) := by decide +kernel
theorem d_K_fillAct_22 : decode b_K_fillAct 22 = .ok (.invokevirtual 99, 3) := by decide +kernel
theorem d_K_fillAct_25 : decode b_K_fillAct 25 = .ok (.aload_n 0, 1) := by decide +kernel
theorem d_K_fillAct_26 : decode b_K_fillAct 26 = .ok (.iconst 5, 1) := by decide +kernel
theorem d_K_fillAct_27 : decode b_K_fillAct 27 = .ok (.invokevirtual 72, 3) := by decide +kernel
theorem d_K_fillAct_30 : decode b_K_fillAct 30 = .ok (.iadd, 1) := by decide +kernel
theorem d_K_fillAct_31 : decode b_K_fillAct 31 = .ok (.invokevirtual 76, 3) := by decide +kernel
theorem d_K_fillAct_34 : decode b_K_fillAct 34 = .ok (.return_, 1) := by decide +kernel
theorem d_K_timeBefore_0 : decode b_K_timeBefore 0 = .ok (.iload_n 1, 1) := by decide +kernel
theorem d_K_timeBefore_1 : decode b_K_timeBefore 1 = .ok (.ifCond .le 14, 3) := by decide +kernel
theorem d_K_timeBefore_4 : decode b_K_timeBefore 4 = .ok (.aload_n 0, 1) := by decide +kernel
theorem d_K_timeBefore_5 : decode b_K_timeBefore 5 = .ok (.iload_n 1, 1) := by decide +kernel
theorem d_K_timeBefore_6 : decode b_K_timeBefore 6 = .ok (.iconst 1, 1) := by decide +kernel
theorem d_K_timeBefore_7 : decode b_K_timeBefore 7 = .ok (.isub, 1) := by decide +kernel
theorem d_K_timeBefore_8 : decode b_K_timeBefore 8 = .ok (.iconst 2, 1) := by decide +kernel
theorem d_K_timeBefore_9 : decode b_K_timeBefore 9 = .ok (.invokevirtual 83, 3) := by decide +kernel
theorem d_K_timeBefore_12 : decode b_K_timeBefore 12 = .ok (.goto 4, 3) := by decide +kernel
theorem d_K_timeBefore_15 : decode b_K_timeBefore 15 = .ok (.iconst 0, 1) := by decide +kernel
theorem d_K_timeBefore_16 : decode b_K_timeBefore 16 = .ok (.ireturn, 1) := by decide +kernel
theorem d_R_clear_0 : decode b_R_clear 0 = .ok (.aload_n 0, 1) := by decide +kernel
theorem d_R_clear_1 : decode b_R_clear 1 = .ok (.iconst 0, 1) := by decide +kernel
theorem d_R_clear_2 : decode b_R_clear 2 = .ok (.putfield 15, 3) := by decide +kernel
theorem d_R_clear_5 : decode b_R_clear 5 = .ok (.return_, 1) := by decide +kernel
theorem d_K_allParts_0 : decode b_K_allParts 0 = .ok (.iconst 1, 1) := by decide +kernel
theorem d_K_allParts_1 : decode b_K_allParts 1 = .ok (.aload_n 0, 1) := by decide +kernel
theorem d_K_allParts_2 : decode b_K_allParts 2 = .ok (.getfield 29, 3) := by decide +kernel
theorem d_K_allParts_5 : decode b_K_allParts 5 = .ok (.ishl, 1) := by decide +kernel
theorem d_K_allParts_6 : decode b_K_allParts 6 = .ok (.iconst 1, 1) := by decide +kernel
theorem d_K_allParts_7 : decode b_K_allParts 7 = .ok (.isub, 1) := by decide +kernel
theorem d_K_allParts_8 : decode b_K_allParts 8 = .ok (.ireturn, 1) := by decide +kernel
theorem d_K_count_0 : decode b_K_count 0 = .ok (.aload_n 0, 1) := by decide +kernel
theorem d_K_count_1 : decode b_K_count 1 = .ok (.getfield 29, 3) := by decide +kernel
theorem d_K_count_4 : decode b_K_count 4 = .ok (.ireturn, 1) := by decide +kernel
theorem d_D_part_0 : decode b_D_part 0 = .ok (.aload_n 0, 1) := by decide +kernel
theorem d_D_part_1 : decode b_D_part 1 = .ok (.getfield 12, 3) := by decide +kernel
theorem d_D_part_4 : decode b_D_part 4 = .ok (.iload_n 1, 1) := by decide +kernel
theorem d_D_part_5 : decode b_D_part 5 = .ok (.iload_n 2, 1) := by decide +kernel
theorem d_D_part_6 : decode b_D_part 6 = .ok (.invokevirtual 58, 3) := by decide +kernel
theorem d_D_part_9 : decode b_D_part 9 = .ok (.ireturn, 1) := by decide +kernel
theorem d_D_letter_0 : decode b_D_letter 0 = .ok (.aload_n 0, 1) := by decide +kernel
theorem d_D_letter_1 : decode b_D_letter 1 = .ok (.getfield 12, 3) := by decide +kernel
theorem d_D_letter_4 : decode b_D_letter 4 = .ok (.iload_n 1, 1) := by decide +kernel
theorem d_D_letter_5 : decode b_D_letter 5 = .ok (.invokevirtual 62, 3) := by decide +kernel
theorem d_D_letter_8 : decode b_D_letter 8 = .ok (.ireturn, 1) := by decide +kernel
theorem d_D_majority_0 : decode b_D_majority 0 = .ok (.aload_n 0, 1) := by decide +kernel
theorem d_D_majority_1 : decode b_D_majority 1 = .ok (.getfield 12, 3) := by decide +kernel
theorem d_D_majority_4 : decode b_D_majority 4 = .ok (.iload_n 1, 1) := by decide +kernel
theorem d_D_majority_5 : decode b_D_majority 5 = .ok (.invokevirtual 66, 3) := by decide +kernel
theorem d_D_majority_8 : decode b_D_majority 8 = .ok (.ireturn, 1) := by decide +kernel
theorem d_K_winner_0 : decode b_K_winner 0 = .ok (.aload_n 0, 1) := by decide +kernel
theorem d_K_winner_1 : decode b_K_winner 1 = .ok (.getfield 25, 3) := by decide +kernel
theorem d_K_winner_4 : decode b_K_winner 4 = .ok (.iconst 1, 1) := by decide +kernel
theorem d_K_winner_5 : decode b_K_winner 5 = .ok (.if_icmp .ne 11, 3) := by decide +kernel
theorem d_K_winner_8 : decode b_K_winner 8 = .ok (.aload_n 0, 1) := by decide +kernel
theorem d_K_winner_9 : decode b_K_winner 9 = .ok (.iload_n 1, 1) := by decide +kernel
theorem d_K_winner_10 : decode b_K_winner 10 = .ok (.invokevirtual 35, 3) := by decide +kernel
theorem d_K_winner_13 : decode b_K_winner 13 = .ok (.ifCond .ne 5, 3) := by decide +kernel
theorem d_K_winner_16 : decode b_K_winner 16 = .ok (.iconst (-1), 1) := by decide +kernel
theorem d_K_winner_17 : decode b_K_winner 17 = .ok (.ireturn, 1) := by decide +kernel
theorem d_K_winner_18 : decode b_K_winner 18 = .ok (.iconst 0, 1) := by decide +kernel
theorem d_K_winner_19 : decode b_K_winner 19 = .ok (.istore_n 2, 1) := by decide +kernel
theorem d_K_winner_20 : decode b_K_winner 20 = .ok (.iload_n 2, 1) := by decide +kernel
theorem d_K_winner_21 : decode b_K_winner 21 = .ok (.iconst 3, 1) := by decide +kernel
theorem d_K_winner_22 : decode b_K_winner 22 = .ok (.if_icmp .ge 28, 3) := by decide +kernel
theorem d_K_winner_25 : decode b_K_winner 25 = .ok (.iconst 2, 1) := by decide +kernel
theorem d_K_winner_26 : decode b_K_winner 26 = .ok (.aload_n 0, 1) := by decide +kernel
theorem d_K_winner_27 : decode b_K_winner 27 = .ok (.iload_n 1, 1) := by decide +kernel
theorem d_K_winner_28 : decode b_K_winner 28 = .ok (.iload_n 2, 1) := by decide +kernel
theorem d_K_winner_29 : decode b_K_winner 29 = .ok (.invokevirtual 106, 3) := by decide +kernel
theorem d_K_winner_32 : decode b_K_winner 32 = .ok (.imul, 1) := by decide +kernel
theorem d_K_winner_33 : decode b_K_winner 33 = .ok (.aload_n 0, 1) := by decide +kernel
theorem d_K_winner_34 : decode b_K_winner 34 = .ok (.iload_n 1, 1) := by decide +kernel
theorem d_K_winner_35 : decode b_K_winner 35 = .ok (.iconst 0, 1) := by decide +kernel
theorem d_K_winner_36 : decode b_K_winner 36 = .ok (.invokevirtual 83, 3) := by decide +kernel
theorem d_K_winner_39 : decode b_K_winner 39 = .ok (.if_icmp .le 5, 3) := by decide +kernel
theorem d_K_winner_42 : decode b_K_winner 42 = .ok (.iload_n 2, 1) := by decide +kernel
theorem d_K_winner_43 : decode b_K_winner 43 = .ok (.ireturn, 1) := by decide +kernel
theorem d_K_winner_44 : decode b_K_winner 44 = .ok (.iinc 2 1, 3) := by decide +kernel
theorem d_K_winner_47 : decode b_K_winner 47 = .ok (.goto (-27), 3) := by decide +kernel
theorem d_K_winner_50 : decode b_K_winner 50 = .ok (.iconst (-1), 1) := by decide +kernel
theorem d_K_winner_51 : decode b_K_winner 51 = .ok (.ireturn, 1) := by decide +kernel
theorem d_K_votes_0 : decode b_K_votes 0 = .ok (.aload_n 0, 1) := by decide +kernel
theorem d_K_votes_1 : decode b_K_votes 1 = .ok (.iload_n 1, 1) := by decide +kernel
theorem d_K_votes_2 : decode b_K_votes 2 = .ok (.iconst 0, 1) := by decide +kernel
theorem d_K_votes_3 : decode b_K_votes 3 = .ok (.invokevirtual 83, 3) := by decide +kernel
theorem d_K_votes_6 : decode b_K_votes 6 = .ok (.istore_n 3, 1) := by decide +kernel
theorem d_K_votes_7 : decode b_K_votes 7 = .ok (.aload_n 0, 1) := by decide +kernel
theorem d_K_votes_8 : decode b_K_votes 8 = .ok (.iload_n 1, 1) := by decide +kernel
theorem d_K_votes_9 : decode b_K_votes 9 = .ok (.iconst 1, 1) := by decide +kernel
theorem d_K_votes_10 : decode b_K_votes 10 = .ok (.invokevirtual 83, 3) := by decide +kernel
theorem d_K_votes_13 : decode b_K_votes 13 = .ok (.istore 4, 2) := by decide +kernel
theorem d_K_votes_15 : decode b_K_votes 15 = .ok (.iconst 3, 1) := by decide +kernel
theorem d_K_votes_16 : decode b_K_votes 16 = .ok (.istore 5, 2) := by decide +kernel
theorem d_K_votes_18 : decode b_K_votes 18 = .ok (.iconst 0, 1) := by decide +kernel
theorem d_K_votes_19 : decode b_K_votes 19 = .ok (.istore 6, 2) := by decide +kernel
theorem d_K_votes_21 : decode b_K_votes 21 = .ok (.iconst 0, 1) := by decide +kernel
theorem d_K_votes_22 : decode b_K_votes 22 = .ok (.istore 7, 2) := by decide +kernel
theorem d_K_votes_24 : decode b_K_votes 24 = .ok (.iload 7, 2) := by decide +kernel
theorem d_K_votes_26 : decode b_K_votes 26 = .ok (.iload_n 3, 1) := by decide +kernel
theorem d_K_votes_27 : decode b_K_votes 27 = .ok (.if_icmp .ge 26, 3) := by decide +kernel
theorem d_K_votes_30 : decode b_K_votes 30 = .ok (.iload 4, 2) := by decide +kernel
theorem d_K_votes_32 : decode b_K_votes 32 = .ok (.iconst 2, 1) := by decide +kernel
theorem d_K_votes_33 : decode b_K_votes 33 = .ok (.iload 7, 2) := by decide +kernel
theorem d_K_votes_35 : decode b_K_votes 35 = .ok (.imul, 1) := by decide +kernel
theorem d_K_votes_36 : decode b_K_votes 36 = .ok (.ishr, 1) := by decide +kernel
theorem d_K_votes_37 : decode b_K_votes 37 = .ok (.iload 5, 2) := by decide +kernel
theorem d_K_votes_39 : decode b_K_votes 39 = .ok (.iand, 1) := by decide +kernel
theorem d_K_votes_40 : decode b_K_votes 40 = .ok (.iload_n 2, 1) := by decide +kernel
theorem d_K_votes_41 : decode b_K_votes 41 = .ok (.if_icmp .ne 6, 3) := by decide +kernel
theorem d_K_votes_44 : decode b_K_votes 44 = .ok (.iinc 6 1, 3) := by decide +kernel
theorem d_K_votes_47 : decode b_K_votes 47 = .ok (.iinc 7 1, 3) := by decide +kernel
theorem d_K_votes_50 : decode b_K_votes 50 = .ok (.goto (-26), 3) := by decide +kernel
theorem d_K_votes_53 : decode b_K_votes 53 = .ok (.iload 6, 2) := by decide +kernel
theorem d_K_votes_55 : decode b_K_votes 55 = .ok (.ireturn, 1) := by decide +kernel
theorem d_D_ends_0 : decode b_D_ends 0 = .ok (.aload_n 0, 1) := by decide +kernel
theorem d_D_ends_1 : decode b_D_ends 1 = .ok (.getfield 12, 3) := by decide +kernel
theorem d_D_ends_4 : decode b_D_ends 4 = .ok (.iload_n 1, 1) := by decide +kernel
theorem d_D_ends_5 : decode b_D_ends 5 = .ok (.invokevirtual 69, 3) := by decide +kernel
theorem d_D_ends_8 : decode b_D_ends 8 = .ok (.ifCond .eq 21, 3) := by decide +kernel
theorem d_D_ends_11 : decode b_D_ends 11 = .ok (.aload_n 0, 1) := by decide +kernel
theorem d_D_ends_12 : decode b_D_ends 12 = .ok (.getfield 12, 3) := by decide +kernel
theorem d_D_ends_15 : decode b_D_ends 15 = .ok (.iload_n 1, 1) := by decide +kernel
theorem d_D_ends_16 : decode b_D_ends 16 = .ok (.invokevirtual 73, 3) := by decide +kernel
theorem d_D_ends_19 : decode b_D_ends 19 = .ok (.sipush 1500, 3) := by decide +kernel
theorem d_D_ends_22 : decode b_D_ends 22 = .ok (.if_icmp .gt 7, 3) := by decide +kernel
theorem d_D_ends_25 : decode b_D_ends 25 = .ok (.iconst 1, 1) := by decide +kernel
theorem d_D_ends_26 : decode b_D_ends 26 = .ok (.goto 4, 3) := by decide +kernel
theorem d_D_ends_29 : decode b_D_ends 29 = .ok (.iconst 0, 1) := by decide +kernel
theorem d_D_ends_30 : decode b_D_ends 30 = .ok (.ireturn, 1) := by decide +kernel
theorem d_K_isPattern_0 : decode b_K_isPattern 0 = .ok (.aload_n 0, 1) := by decide +kernel
theorem d_K_isPattern_1 : decode b_K_isPattern 1 = .ok (.getfield 25, 3) := by decide +kernel
theorem d_K_isPattern_4 : decode b_K_isPattern 4 = .ok (.iconst 2, 1) := by decide +kernel
theorem d_K_isPattern_5 : decode b_K_isPattern 5 = .ok (.if_icmp .ne 15, 3) := by decide +kernel
theorem d_K_isPattern_8 : decode b_K_isPattern 8 = .ok (.aload_n 0, 1) := by decide +kernel
theorem d_K_isPattern_9 : decode b_K_isPattern 9 = .ok (.iload_n 1, 1) := by decide +kernel
theorem d_K_isPattern_10 : decode b_K_isPattern 10 = .ok (.invokevirtual 35, 3) := by decide +kernel
theorem d_K_isPattern_13 : decode b_K_isPattern 13 = .ok (.ifCond .eq 7, 3) := by decide +kernel
theorem d_K_isPattern_16 : decode b_K_isPattern 16 = .ok (.iconst 1, 1) := by decide +kernel
theorem d_K_isPattern_17 : decode b_K_isPattern 17 = .ok (.goto 4, 3) := by decide +kernel
theorem d_K_isPattern_20 : decode b_K_isPattern 20 = .ok (.iconst 0, 1) := by decide +kernel
theorem d_K_isPattern_21 : decode b_K_isPattern 21 = .ok (.ireturn, 1) := by decide +kernel
theorem d_K_lastDay_0 : decode b_K_lastDay 0 = .ok (.aload_n 0, 1) := by decide +kernel
theorem d_K_lastDay_1 : decode b_K_lastDay 1 = .ok (.iload_n 1, 1) := by decide +kernel
theorem d_K_lastDay_2 : decode b_K_lastDay 2 = .ok (.iconst 0, 1) := by decide +kernel
theorem d_K_lastDay_3 : decode b_K_lastDay 3 = .ok (.invokevirtual 83, 3) := by decide +kernel
theorem d_K_lastDay_6 : decode b_K_lastDay 6 = .ok (.aload_n 0, 1) := by decide +kernel
theorem d_K_lastDay_7 : decode b_K_lastDay 7 = .ok (.iload_n 1, 1) := by decide +kernel
theorem d_K_lastDay_8 : decode b_K_lastDay 8 = .ok (.iconst 2, 1) := by decide +kernel
theorem d_K_lastDay_9 : decode b_K_lastDay 9 = .ok (.invokevirtual 83, 3) := by decide +kernel
theorem d_K_lastDay_12 : decode b_K_lastDay 12 = .ok (.iconst 1, 1) := by decide +kernel
theorem d_K_lastDay_13 : decode b_K_lastDay 13 = .ok (.isub, 1) := by decide +kernel
theorem d_K_lastDay_14 : decode b_K_lastDay 14 = .ok (.aload_n 0, 1) := by decide +kernel
theorem d_K_lastDay_15 : decode b_K_lastDay 15 = .ok (.iload_n 1, 1) := by decide +kernel
theorem d_K_lastDay_16 : decode b_K_lastDay 16 = .ok (.iconst 1, 1) := by decide +kernel
theorem d_K_lastDay_17 : decode b_K_lastDay 17 = .ok (.invokevirtual 83, 3) := by decide +kernel
theorem d_K_lastDay_20 : decode b_K_lastDay 20 = .ok (.imul, 1) := by decide +kernel
theorem d_K_lastDay_21 : decode b_K_lastDay 21 = .ok (.iadd, 1) := by decide +kernel
theorem d_K_lastDay_22 : decode b_K_lastDay 22 = .ok (.ireturn, 1) := by decide +kernel
theorem d_D_planted_0 : decode b_D_planted 0 = .ok (.iload_n 1, 1) := by decide +kernel
theorem d_D_planted_1 : decode b_D_planted 1 = .ok (.ifCond .lt 9, 3) := by decide +kernel
theorem d_D_planted_4 : decode b_D_planted 4 = .ok (.iload_n 1, 1) := by decide +kernel
theorem d_D_planted_5 : decode b_D_planted 5 = .ok (.bipush 8, 2) := by decide +kernel
theorem d_D_planted_7 : decode b_D_planted 7 = .ok (.if_icmp .lt 5, 3) := by decide +kernel
theorem d_D_planted_10 : decode b_D_planted 10 = .ok (.iconst (-1), 1) := by decide +kernel
theorem d_D_planted_11 : decode b_D_planted 11 = .ok (.ireturn, 1) := by decide +kernel
theorem d_D_planted_12 : decode b_D_planted 12 = .ok (.iconst 0, 1) := by decide +kernel
theorem d_D_planted_13 : decode b_D_planted 13 = .ok (.istore_n 2, 1) := by decide +kernel
theorem d_D_planted_14 : decode b_D_planted 14 = .ok (.iconst 0, 1) := by decide +kernel
theorem d_D_planted_15 : decode b_D_planted 15 = .ok (.istore_n 3, 1) := by decide +kernel
theorem d_D_planted_16 : decode b_D_planted 16 = .ok (.iload_n 3, 1) := by decide +kernel
theorem d_D_planted_17 : decode b_D_planted 17 = .ok (.aload_n 0, 1) := by decide +kernel
theorem d_D_planted_18 : decode b_D_planted 18 = .ok (.getfield 12, 3) := by decide +kernel
theorem d_D_planted_21 : decode b_D_planted 21 = .ok (.invokevirtual 55, 3) := by decide +kernel
theorem d_D_planted_24 : decode b_D_planted 24 = .ok (.if_icmp .ge 24, 3) := by decide +kernel
theorem d_D_planted_27 : decode b_D_planted 27 = .ok (.aload_n 0, 1) := by decide +kernel
theorem d_D_planted_28 : decode b_D_planted 28 = .ok (.getfield 12, 3) := by decide +kernel
theorem d_D_planted_31 : decode b_D_planted 31 = .ok (.iload_n 3, 1) := by decide +kernel
theorem d_D_planted_32 : decode b_D_planted 32 = .ok (.iload_n 1, 1) := by decide +kernel
theorem d_D_planted_33 : decode b_D_planted 33 = .ok (.invokevirtual 76, 3) := by decide +kernel
theorem d_D_planted_36 : decode b_D_planted 36 = .ok (.ifCond .eq 6, 3) := by decide +kernel
theorem d_D_planted_39 : decode b_D_planted 39 = .ok (.iinc 2 1, 3) := by decide +kernel
theorem d_D_planted_42 : decode b_D_planted 42 = .ok (.iinc 3 1, 3) := by decide +kernel
theorem d_D_planted_45 : decode b_D_planted 45 = .ok (.goto (-29), 3) := by decide +kernel
theorem d_D_planted_48 : decode b_D_planted 48 = .ok (.iload_n 2, 1) := by decide +kernel
theorem d_D_planted_49 : decode b_D_planted 49 = .ok (.ireturn, 1) := by decide +kernel
theorem d_K_shows_0 : decode b_K_shows 0 = .ok (.iload_n 2, 1) := by decide +kernel
theorem d_K_shows_1 : decode b_K_shows 1 = .ok (.tableswitch 237 0 7 #[47, 69, 91, 114, 137, 162, 185, 209], 47) := by decide +kernel
theorem d_K_shows_48 : decode b_K_shows 48 = .ok (.aload_n 0, 1) := by decide +kernel
theorem d_K_shows_49 : decode b_K_shows 49 = .ok (.getfield 25, 3) := by decide +kernel
theorem d_K_shows_52 : decode b_K_shows 52 = .ok (.ifCond .ne 16, 3) := by decide +kernel
theorem d_K_shows_55 : decode b_K_shows 55 = .ok (.aload_n 0, 1) := by decide +kernel
theorem d_K_shows_56 : decode b_K_shows 56 = .ok (.iload_n 1, 1) := by decide +kernel
theorem d_K_shows_57 : decode b_K_shows 57 = .ok (.iconst 0, 1) := by decide +kernel
theorem d_K_shows_58 : decode b_K_shows 58 = .ok (.invokevirtual 83, 3) := by decide +kernel
theorem d_K_shows_61 : decode b_K_shows 61 = .ok (.ifCond .ne 7, 3) := by decide +kernel
theorem d_K_shows_64 : decode b_K_shows 64 = .ok (.iconst 1, 1) := by decide +kernel
theorem d_K_shows_65 : decode b_K_shows 65 = .ok (.goto 4, 3) := by decide +kernel
theorem d_K_shows_68 : decode b_K_shows 68 = .ok (.iconst 0, 1) := by decide +kernel
theorem d_K_shows_69 : decode b_K_shows 69 = .ok (.ireturn, 1) := by decide +kernel
theorem d_K_shows_70 : decode b_K_shows 70 = .ok (.aload_n 0, 1) := by decide +kernel
theorem d_K_shows_71 : decode b_K_shows 71 = .ok (.getfield 25, 3) := by decide +kernel
theorem d_K_shows_74 : decode b_K_shows 74 = .ok (.ifCond .ne 16, 3) := by decide +kernel
theorem d_K_shows_77 : decode b_K_shows 77 = .ok (.aload_n 0, 1) := by decide +kernel
theorem d_K_shows_78 : decode b_K_shows 78 = .ok (.iload_n 1, 1) := by decide +kernel
theorem d_K_shows_79 : decode b_K_shows 79 = .ok (.iconst 1, 1) := by decide +kernel
theorem d_K_shows_80 : decode b_K_shows 80 = .ok (.invokevirtual 83, 3) := by decide +kernel
theorem d_K_shows_83 : decode b_K_shows 83 = .ok (.ifCond .ne 7, 3) := by decide +kernel
theorem d_K_shows_86 : decode b_K_shows 86 = .ok (.iconst 1, 1) := by decide +kernel
theorem d_K_shows_87 : decode b_K_shows 87 = .ok (.goto 4, 3) := by decide +kernel
theorem d_K_shows_90 : decode b_K_shows 90 = .ok (.iconst 0, 1) := by decide +kernel
theorem d_K_shows_91 : decode b_K_shows 91 = .ok (.ireturn, 1) := by decide +kernel
theorem d_K_shows_92 : decode b_K_shows 92 = .ok (.aload_n 0, 1) := by decide +kernel
theorem d_K_shows_93 : decode b_K_shows 93 = .ok (.getfield 25, 3) := by decide +kernel
theorem d_K_shows_96 : decode b_K_shows 96 = .ok (.ifCond .ne 17, 3) := by decide +kernel
theorem d_K_shows_99 : decode b_K_shows 99 = .ok (.aload_n 0, 1) := by decide +kernel
theorem d_K_shows_100 : decode b_K_shows 100 = .ok (.iload_n 1, 1) := by decide +kernel
theorem d_K_shows_101 : decode b_K_shows 101 = .ok (.iconst 2, 1) := by decide +kernel
theorem d_K_shows_102 : decode b_K_shows 102 = .ok (.invokevirtual 83, 3) := by decide +kernel
theorem d_K_shows_105 : decode b_K_shows 105 = .ok (.iconst (-1), 1) := by decide +kernel
theorem d_K_shows_106 : decode b_K_shows 106 = .ok (.if_icmp .eq 7, 3) := by decide +kernel
theorem d_K_shows_109 : decode b_K_shows 109 = .ok (.iconst 1, 1) := by decide +kernel
theorem d_K_shows_110 : decode b_K_shows 110 = .ok (.goto 4, 3) := by decide +kernel
theorem d_K_shows_113 : decode b_K_shows 113 = .ok (.iconst 0, 1) := by decide +kernel
theorem d_K_shows_114 : decode b_K_shows 114 = .ok (.ireturn, 1) := by decide +kernel
theorem d_K_shows_115 : decode b_K_shows 115 = .ok (.aload_n 0, 1) := by decide +kernel
theorem d_K_shows_116 : decode b_K_shows 116 = .ok (.getfield 25, 3) := by decide +kernel
theorem d_K_shows_119 : decode b_K_shows 119 = .ok (.iconst 1, 1) := by decide +kernel
theorem d_K_shows_120 : decode b_K_shows 120 = .ok (.if_icmp .ne 16, 3) := by decide +kernel
theorem d_K_shows_123 : decode b_K_shows 123 = .ok (.aload_n 0, 1) := by decide +kernel
theorem d_K_shows_124 : decode b_K_shows 124 = .ok (.iload_n 1, 1) := by decide +kernel
theorem d_K_shows_125 : decode b_K_shows 125 = .ok (.invokevirtual 109, 3) := by decide +kernel
theorem d_K_shows_128 : decode b_K_shows 128 = .ok (.iconst (-1), 1) := by decide +kernel
theorem d_K_shows_129 : decode b_K_shows 129 = .ok (.if_icmp .ne 7, 3) := by decide +kernel
theorem d_K_shows_132 : decode b_K_shows 132 = .ok (.iconst 1, 1) := by decide +kernel
theorem d_K_shows_133 : decode b_K_shows 133 = .ok (.goto 4, 3) := by decide +kernel
theorem d_K_shows_136 : decode b_K_shows 136 = .ok (.iconst 0, 1) := by decide +kernel
theorem d_K_shows_137 : decode b_K_shows 137 = .ok (.ireturn, 1) := by decide +kernel
theorem d_K_shows_138 : decode b_K_shows 138 = .ok (.aload_n 0, 1) := by decide +kernel
theorem d_K_shows_139 : decode b_K_shows 139 = .ok (.iload_n 1, 1) := by decide +kernel
theorem d_K_shows_140 : decode b_K_shows 140 = .ok (.invokevirtual 112, 3) := by decide +kernel
theorem d_K_shows_143 : decode b_K_shows 143 = .ok (.ifCond .eq 18, 3) := by decide +kernel
theorem d_K_shows_146 : decode b_K_shows 146 = .ok (.aload_n 0, 1) := by decide +kernel
theorem d_K_shows_147 : decode b_K_shows 147 = .ok (.iload_n 1, 1) := by decide +kernel
theorem d_K_shows_148 : decode b_K_shows 148 = .ok (.invokevirtual 115, 3) := by decide +kernel
theorem d_K_shows_151 : decode b_K_shows 151 = .ok (.sipush 1500, 3) := by decide +kernel
theorem d_K_shows_154 : decode b_K_shows 154 = .ok (.if_icmp .ne 7, 3) := by decide +kernel
theorem d_K_shows_157 : decode b_K_shows 157 = .ok (.iconst 1, 1) := by decide +kernel
theorem d_K_shows_158 : decode b_K_shows 158 = .ok (.goto 4, 3) := by decide +kernel
theorem d_K_shows_161 : decode b_K_shows 161 = .ok (.iconst 0, 1) := by decide +kernel
theorem d_K_shows_162 : decode b_K_shows 162 = .ok (.ireturn, 1) := by decide +kernel
theorem d_K_shows_163 : decode b_K_shows 163 = .ok (.aload_n 0, 1) := by decide +kernel
theorem d_K_shows_164 : decode b_K_shows 164 = .ok (.getfield 25, 3) := by decide +kernel
theorem d_K_shows_167 : decode b_K_shows 167 = .ok (.iconst 3, 1) := by decide +kernel
theorem d_K_shows_168 : decode b_K_shows 168 = .ok (.if_icmp .ne 16, 3) := by decide +kernel
theorem d_K_shows_171 : decode b_K_shows 171 = .ok (.aload_n 0, 1) := by decide +kernel
theorem d_K_shows_172 : decode b_K_shows 172 = .ok (.iload_n 1, 1) := by decide +kernel
theorem d_K_shows_173 : decode b_K_shows 173 = .ok (.iconst 2, 1) := by decide +kernel
theorem d_K_shows_174 : decode b_K_shows 174 = .ok (.invokevirtual 83, 3) := by decide +kernel
theorem d_K_shows_177 : decode b_K_shows 177 = .ok (.ifCond .eq 7, 3) := by decide +kernel
theorem d_K_shows_180 : decode b_K_shows 180 = .ok (.iconst 1, 1) := by decide +kernel
theorem d_K_shows_181 : decode b_K_shows 181 = .ok (.goto 4, 3) := by decide +kernel
theorem d_K_shows_184 : decode b_K_shows 184 = .ok (.iconst 0, 1) := by decide +kernel
theorem d_K_shows_185 : decode b_K_shows 185 = .ok (.ireturn, 1) := by decide +kernel
theorem d_K_shows_186 : decode b_K_shows 186 = .ok (.aload_n 0, 1) := by decide +kernel
theorem d_K_shows_187 : decode b_K_shows 187 = .ok (.getfield 25, 3) := by decide +kernel
theorem d_K_shows_190 : decode b_K_shows 190 = .ok (.iconst 4, 1) := by decide +kernel
theorem d_K_shows_191 : decode b_K_shows 191 = .ok (.if_icmp .ne 17, 3) := by decide +kernel
theorem d_K_shows_194 : decode b_K_shows 194 = .ok (.aload_n 0, 1) := by decide +kernel
theorem d_K_shows_195 : decode b_K_shows 195 = .ok (.iload_n 1, 1) := by decide +kernel
theorem d_K_shows_196 : decode b_K_shows 196 = .ok (.iconst 1, 1) := by decide +kernel
theorem d_K_shows_197 : decode b_K_shows 197 = .ok (.invokevirtual 83, 3) := by decide +kernel
theorem d_K_shows_200 : decode b_K_shows 200 = .ok (.iconst (-1), 1) := by decide +kernel
theorem d_K_shows_201 : decode b_K_shows 201 = .ok (.if_icmp .eq 7, 3) := by decide +kernel
theorem d_K_shows_204 : decode b_K_shows 204 = .ok (.iconst 1, 1) := by decide +kernel
theorem d_K_shows_205 : decode b_K_shows 205 = .ok (.goto 4, 3) := by decide +kernel
theorem d_K_shows_208 : decode b_K_shows 208 = .ok (.iconst 0, 1) := by decide +kernel
theorem d_K_shows_209 : decode b_K_shows 209 = .ok (.ireturn, 1) := by decide +kernel
theorem d_K_shows_210 : decode b_K_shows 210 = .ok (.aload_n 0, 1) := by decide +kernel
theorem d_K_shows_211 : decode b_K_shows 211 = .ok (.getfield 25, 3) := by decide +kernel
theorem d_K_shows_214 : decode b_K_shows 214 = .ok (.iconst 5, 1) := by decide +kernel
theorem d_K_shows_215 : decode b_K_shows 215 = .ok (.if_icmp .ne 21, 3) := by decide +kernel
theorem d_K_shows_218 : decode b_K_shows 218 = .ok (.aload_n 0, 1) := by decide +kernel
theorem d_K_shows_219 : decode b_K_shows 219 = .ok (.iload_n 1, 1) := by decide +kernel
theorem d_K_shows_220 : decode b_K_shows 220 = .ok (.iconst 2, 1) := by decide +kernel
theorem d_K_shows_221 : decode b_K_shows 221 = .ok (.invokevirtual 83, 3) := by decide +kernel
theorem d_K_shows_224 : decode b_K_shows 224 = .ok (.aload_n 0, 1) := by decide +kernel
theorem d_K_shows_225 : decode b_K_shows 225 = .ok (.iload_n 1, 1) := by decide +kernel
theorem d_K_shows_226 : decode b_K_shows 226 = .ok (.invokevirtual 99, 3) := by decide +kernel
theorem d_K_shows_229 : decode b_K_shows 229 = .ok (.if_icmp .ne 7, 3) := by decide +kernel
theorem d_K_shows_232 : decode b_K_shows 232 = .ok (.iconst 1, 1) := by decide +kernel
theorem d_K_shows_233 : decode b_K_shows 233 = .ok (.goto 4, 3) := by decide +kernel
theorem d_K_shows_236 : decode b_K_shows 236 = .ok (.iconst 0, 1) := by decide +kernel
theorem d_K_shows_237 : decode b_K_shows 237 = .ok (.ireturn, 1) := by decide +kernel
theorem d_K_shows_238 : decode b_K_shows 238 = .ok (.iconst 0, 1) := by decide +kernel
theorem d_K_shows_239 : decode b_K_shows 239 = .ok (.ireturn, 1) := by decide +kernel
theorem d_D_verdict_0 : decode b_D_verdict 0 = .ok (.aload_n 0, 1) := by decide +kernel
theorem d_D_verdict_1 : decode b_D_verdict 1 = .ok (.getfield 12, 3) := by decide +kernel
theorem d_D_verdict_4 : decode b_D_verdict 4 = .ok (.invokevirtual 55, 3) := by decide +kernel
theorem d_D_verdict_7 : decode b_D_verdict 7 = .ok (.ifCond .ne 4, 3) := by decide +kernel
theorem d_D_verdict_10 : decode b_D_verdict 10 = .ok (.return_, 1) := by decide +kernel
theorem d_D_verdict_11 : decode b_D_verdict 11 = .ok (.iload_n 1, 1) := by decide +kernel
theorem d_D_verdict_12 : decode b_D_verdict 12 = .ok (.aload_n 0, 1) := by decide +kernel
theorem d_D_verdict_13 : decode b_D_verdict 13 = .ok (.getfield 12, 3) := by decide +kernel
theorem d_D_verdict_16 : decode b_D_verdict 16 = .ok (.invokevirtual 51, 3) := by decide +kernel
theorem d_D_verdict_19 : decode b_D_verdict 19 = .ok (.iand, 1) := by decide +kernel
theorem d_D_verdict_20 : decode b_D_verdict 20 = .ok (.istore_n 3, 1) := by decide +kernel
theorem d_D_verdict_21 : decode b_D_verdict 21 = .ok (.iload_n 2, 1) := by decide +kernel
theorem d_D_verdict_22 : decode b_D_verdict 22 = .ok (.ifCond .eq 14, 3) := by decide +kernel
theorem d_D_verdict_25 : decode b_D_verdict 25 = .ok (.aload_n 0, 1) := by decide +kernel
theorem d_D_verdict_26 : decode b_D_verdict 26 = .ok (.getfield 25, 3) := by decide +kernel
theorem d_D_verdict_29 : decode b_D_verdict 29 = .ok (.iload_n 3, 1) := by decide +kernel
theorem d_D_verdict_30 : decode b_D_verdict 30 = .ok (.invokevirtual 79, 3) := by decide +kernel
theorem d_D_verdict_33 : decode b_D_verdict 33 = .ok (.goto 11, 3) := by decide +kernel
theorem d_D_verdict_36 : decode b_D_verdict 36 = .ok (.aload_n 0, 1) := by decide +kernel
theorem d_D_verdict_37 : decode b_D_verdict 37 = .ok (.getfield 29, 3) := by decide +kernel
theorem d_D_verdict_40 : decode b_D_verdict 40 = .ok (.iload_n 3, 1) := by decide +kernel
theorem d_D_verdict_41 : decode b_D_verdict 41 = .ok (.invokevirtual 79, 3) := by decide +kernel
theorem d_D_verdict_44 : decode b_D_verdict 44 = .ok (.return_, 1) := by decide +kernel
theorem d_R_add_0 : decode b_R_add 0 = .ok (.aload_n 0, 1) := by decide +kernel
theorem d_R_add_1 : decode b_R_add 1 = .ok (.getfield 15, 3) := by decide +kernel
theorem d_R_add_4 : decode b_R_add 4 = .ok (.ifCond .lt 35, 3) := by decide +kernel
theorem d_R_add_7 : decode b_R_add 7 = .ok (.aload_n 0, 1) := by decide +kernel
theorem d_R_add_8 : decode b_R_add 8 = .ok (.getfield 15, 3) := by decide +kernel
theorem d_R_add_11 : decode b_R_add 11 = .ok (.aload_n 0, 1) := by decide +kernel
theorem d_R_add_12 : decode b_R_add 12 = .ok (.getfield 9, 3) := by decide +kernel
theorem d_R_add_15 : decode b_R_add 15 = .ok (.arraylength, 1) := by decide +kernel
theorem d_R_add_16 : decode b_R_add 16 = .ok (.if_icmp .ge 23, 3) := by decide +kernel
theorem d_R_add_19 : decode b_R_add 19 = .ok (.aload_n 0, 1) := by decide +kernel
theorem d_R_add_20 : decode b_R_add 20 = .ok (.getfield 9, 3) := by decide +kernel
theorem d_R_add_23 : decode b_R_add 23 = .ok (.aload_n 0, 1) := by decide +kernel
theorem d_R_add_24 : decode b_R_add 24 = .ok (.getfield 15, 3) := by decide +kernel
theorem d_R_add_27 : decode b_R_add 27 = .ok (.iload_n 1, 1) := by decide +kernel
theorem d_R_add_28 : decode b_R_add 28 = .ok (.iastore, 1) := by decide +kernel
theorem d_R_add_29 : decode b_R_add 29 = .ok (.aload_n 0, 1) := by decide +kernel
theorem d_R_add_30 : decode b_R_add 30 = .ok (.dup, 1) := by decide +kernel
theorem d_R_add_31 : decode b_R_add 31 = .ok (.getfield 15, 3) := by decide +kernel
theorem d_R_add_34 : decode b_R_add 34 = .ok (.iconst 1, 1) := by decide +kernel
theorem d_R_add_35 : decode b_R_add 35 = .ok (.iadd, 1) := by decide +kernel
theorem d_R_add_36 : decode b_R_add 36 = .ok (.putfield 15, 3) := by decide +kernel
theorem d_R_add_39 : decode b_R_add 39 = .ok (.return_, 1) := by decide +kernel
theorem d_D_shorter_0 : decode b_D_shorter 0 = .ok (.aload_n 0, 1) := by decide +kernel
theorem d_D_shorter_1 : decode b_D_shorter 1 = .ok (.aload_n 0, 1) := by decide +kernel
theorem d_D_shorter_2 : decode b_D_shorter 2 = .ok (.aload_n 0, 1) := by decide +kernel
theorem d_D_shorter_3 : decode b_D_shorter 3 = .ok (.getfield 12, 3) := by decide +kernel
theorem d_D_shorter_6 : decode b_D_shorter 6 = .ok (.invokevirtual 51, 3) := by decide +kernel
theorem d_D_shorter_9 : decode b_D_shorter 9 = .ok (.invokevirtual 83, 3) := by decide +kernel
theorem d_D_shorter_12 : decode b_D_shorter 12 = .ok (.putfield 32, 3) := by decide +kernel
theorem d_D_shorter_15 : decode b_D_shorter 15 = .ok (.aload_n 0, 1) := by decide +kernel
theorem d_D_shorter_16 : decode b_D_shorter 16 = .ok (.getfield 32, 3) := by decide +kernel
theorem d_D_shorter_19 : decode b_D_shorter 19 = .ok (.invokestatic 86, 3) := by decide +kernel
theorem d_D_shorter_22 : decode b_D_shorter 22 = .ok (.ireturn, 1) := by decide +kernel
theorem d_D_smallerCase_0 : decode b_D_smallerCase 0 = .ok (.aload_n 0, 1) := by decide +kernel
theorem d_D_smallerCase_1 : decode b_D_smallerCase 1 = .ok (.iload_n 1, 1) := by decide +kernel
theorem d_D_smallerCase_2 : decode b_D_smallerCase 2 = .ok (.invokevirtual 94, 3) := by decide +kernel
theorem d_D_smallerCase_5 : decode b_D_smallerCase 5 = .ok (.ifCond .ne 5, 3) := by decide +kernel
theorem d_D_smallerCase_8 : decode b_D_smallerCase 8 = .ok (.iload_n 1, 1) := by decide +kernel
theorem d_D_smallerCase_9 : decode b_D_smallerCase 9 = .ok (.ireturn, 1) := by decide +kernel
theorem d_D_smallerCase_10 : decode b_D_smallerCase 10 = .ok (.iload_n 1, 1) := by decide +kernel
theorem d_D_smallerCase_11 : decode b_D_smallerCase 11 = .ok (.istore_n 2, 1) := by decide +kernel
theorem d_D_smallerCase_12 : decode b_D_smallerCase 12 = .ok (.iconst 0, 1) := by decide +kernel
theorem d_D_smallerCase_13 : decode b_D_smallerCase 13 = .ok (.istore_n 3, 1) := by decide +kernel
theorem d_D_smallerCase_14 : decode b_D_smallerCase 14 = .ok (.iload_n 3, 1) := by decide +kernel
theorem d_D_smallerCase_15 : decode b_D_smallerCase 15 = .ok (.bipush 21, 2) := by decide +kernel
theorem d_D_smallerCase_17 : decode b_D_smallerCase 17 = .ok (.if_icmp .gt 28, 3) := by decide +kernel
theorem d_D_smallerCase_20 : decode b_D_smallerCase 20 = .ok (.aload_n 0, 1) := by decide +kernel
theorem d_D_smallerCase_21 : decode b_D_smallerCase 21 = .ok (.iload_n 2, 1) := by decide +kernel
theorem d_D_smallerCase_22 : decode b_D_smallerCase 22 = .ok (.invokevirtual 113, 3) := by decide +kernel
theorem d_D_smallerCase_25 : decode b_D_smallerCase 25 = .ok (.istore 4, 2) := by decide +kernel
theorem d_D_smallerCase_27 : decode b_D_smallerCase 27 = .ok (.iload 4, 2) := by decide +kernel
theorem d_D_smallerCase_29 : decode b_D_smallerCase 29 = .ok (.iload_n 2, 1) := by decide +kernel
theorem d_D_smallerCase_30 : decode b_D_smallerCase 30 = .ok (.if_icmp .ne 6, 3) := by decide +kernel
theorem d_D_smallerCase_33 : decode b_D_smallerCase 33 = .ok (.goto 12, 3) := by decide +kernel
theorem d_D_smallerCase_36 : decode b_D_smallerCase 36 = .ok (.iload 4, 2) := by decide +kernel
theorem d_D_smallerCase_38 : decode b_D_smallerCase 38 = .ok (.istore_n 2, 1) := by decide +kernel
theorem d_D_smallerCase_39 : decode b_D_smallerCase 39 = .ok (.iinc 3 1, 3) := by decide +kernel
theorem d_D_smallerCase_42 : decode b_D_smallerCase 42 = .ok (.goto (-28), 3) := by decide +kernel
theorem d_D_smallerCase_45 : decode b_D_smallerCase 45 = .ok (.iload_n 2, 1) := by decide +kernel
theorem d_D_smallerCase_46 : decode b_D_smallerCase 46 = .ok (.ireturn, 1) := by decide +kernel
theorem d_D_staysFor_0 : decode b_D_staysFor 0 = .ok (.aload_n 0, 1) := by decide +kernel
theorem d_D_staysFor_1 : decode b_D_staysFor 1 = .ok (.getfield 25, 3) := by decide +kernel
theorem d_D_staysFor_4 : decode b_D_staysFor 4 = .ok (.iload_n 1, 1) := by decide +kernel
theorem d_D_staysFor_5 : decode b_D_staysFor 5 = .ok (.invokevirtual 107, 3) := by decide +kernel
theorem d_D_staysFor_8 : decode b_D_staysFor 8 = .ok (.ifCond .eq 18, 3) := by decide +kernel
theorem d_D_staysFor_11 : decode b_D_staysFor 11 = .ok (.aload_n 0, 1) := by decide +kernel
theorem d_D_staysFor_12 : decode b_D_staysFor 12 = .ok (.getfield 29, 3) := by decide +kernel
theorem d_D_staysFor_15 : decode b_D_staysFor 15 = .ok (.iload_n 1, 1) := by decide +kernel
theorem d_D_staysFor_16 : decode b_D_staysFor 16 = .ok (.invokevirtual 110, 3) := by decide +kernel
theorem d_D_staysFor_19 : decode b_D_staysFor 19 = .ok (.ifCond .ne 7, 3) := by decide +kernel
theorem d_D_staysFor_22 : decode b_D_staysFor 22 = .ok (.iconst 1, 1) := by decide +kernel
theorem d_D_staysFor_23 : decode b_D_staysFor 23 = .ok (.goto 4, 3) := by decide +kernel
theorem d_D_staysFor_26 : decode b_D_staysFor 26 = .ok (.iconst 0, 1) := by decide +kernel
theorem d_D_staysFor_27 : decode b_D_staysFor 27 = .ok (.ireturn, 1) := by decide +kernel
theorem d_R_oneIsWithin_0 : decode b_R_oneIsWithin 0 = .ok (.iconst 0, 1) := by decide +kernel
theorem d_R_oneIsWithin_1 : decode b_R_oneIsWithin 1 = .ok (.istore_n 2, 1) := by decide +kernel
theorem d_R_oneIsWithin_2 : decode b_R_oneIsWithin 2 = .ok (.iload_n 2, 1) := by decide +kernel
theorem d_R_oneIsWithin_3 : decode b_R_oneIsWithin 3 = .ok (.aload_n 0, 1) := by decide +kernel
theorem d_R_oneIsWithin_4 : decode b_R_oneIsWithin 4 = .ok (.getfield 15, 3) := by decide +kernel
theorem d_R_oneIsWithin_7 : decode b_R_oneIsWithin 7 = .ok (.if_icmp .ge 37, 3) := by decide +kernel
theorem d_R_oneIsWithin_10 : decode b_R_oneIsWithin 10 = .ok (.iload_n 2, 1) := by decide +kernel
theorem d_R_oneIsWithin_11 : decode b_R_oneIsWithin 11 = .ok (.aload_n 0, 1) := by decide +kernel
theorem d_R_oneIsWithin_12 : decode b_R_oneIsWithin 12 = .ok (.getfield 9, 3) := by decide +kernel
theorem d_R_oneIsWithin_15 : decode b_R_oneIsWithin 15 = .ok (.arraylength, 1) := by decide +kernel
theorem d_R_oneIsWithin_16 : decode b_R_oneIsWithin 16 = .ok (.if_icmp .ge 28, 3) := by decide +kernel
theorem d_R_oneIsWithin_19 : decode b_R_oneIsWithin 19 = .ok (.aload_n 0, 1) := by decide +kernel
theorem d_R_oneIsWithin_20 : decode b_R_oneIsWithin 20 = .ok (.getfield 9, 3) := by decide +kernel
theorem d_R_oneIsWithin_23 : decode b_R_oneIsWithin 23 = .ok (.iload_n 2, 1) := by decide +kernel
theorem d_R_oneIsWithin_24 : decode b_R_oneIsWithin 24 = .ok (.iaload, 1) := by decide +kernel
theorem d_R_oneIsWithin_25 : decode b_R_oneIsWithin 25 = .ok (.iload_n 1, 1) := by decide +kernel
theorem d_R_oneIsWithin_26 : decode b_R_oneIsWithin 26 = .ok (.iand, 1) := by decide +kernel
theorem d_R_oneIsWithin_27 : decode b_R_oneIsWithin 27 = .ok (.aload_n 0, 1) := by decide +kernel
theorem d_R_oneIsWithin_28 : decode b_R_oneIsWithin 28 = .ok (.getfield 9, 3) := by decide +kernel
theorem d_R_oneIsWithin_31 : decode b_R_oneIsWithin 31 = .ok (.iload_n 2, 1) := by decide +kernel
theorem d_R_oneIsWithin_32 : decode b_R_oneIsWithin 32 = .ok (.iaload, 1) := by decide +kernel
theorem d_R_oneIsWithin_33 : decode b_R_oneIsWithin 33 = .ok (.if_icmp .ne 5, 3) := by decide +kernel
theorem d_R_oneIsWithin_36 : decode b_R_oneIsWithin 36 = .ok (.iconst 1, 1) := by decide +kernel
theorem d_R_oneIsWithin_37 : decode b_R_oneIsWithin 37 = .ok (.ireturn, 1) := by decide +kernel
theorem d_R_oneIsWithin_38 : decode b_R_oneIsWithin 38 = .ok (.iinc 2 1, 3) := by decide +kernel
theorem d_R_oneIsWithin_41 : decode b_R_oneIsWithin 41 = .ok (.goto (-39), 3) := by decide +kernel
theorem d_R_oneIsWithin_44 : decode b_R_oneIsWithin 44 = .ok (.iconst 0, 1) := by decide +kernel
theorem d_R_oneIsWithin_45 : decode b_R_oneIsWithin 45 = .ok (.ireturn, 1) := by decide +kernel
theorem d_R_oneIsTornBy_0 : decode b_R_oneIsTornBy 0 = .ok (.iconst 0, 1) := by decide +kernel
theorem d_R_oneIsTornBy_1 : decode b_R_oneIsTornBy 1 = .ok (.istore_n 2, 1) := by decide +kernel
theorem d_R_oneIsTornBy_2 : decode b_R_oneIsTornBy 2 = .ok (.iload_n 2, 1) := by decide +kernel
theorem d_R_oneIsTornBy_3 : decode b_R_oneIsTornBy 3 = .ok (.aload_n 0, 1) := by decide +kernel
theorem d_R_oneIsTornBy_4 : decode b_R_oneIsTornBy 4 = .ok (.getfield 15, 3) := by decide +kernel
theorem d_R_oneIsTornBy_7 : decode b_R_oneIsTornBy 7 = .ok (.if_icmp .ge 43, 3) := by decide +kernel
theorem d_R_oneIsTornBy_10 : decode b_R_oneIsTornBy 10 = .ok (.iload_n 2, 1) := by decide +kernel
theorem d_R_oneIsTornBy_11 : decode b_R_oneIsTornBy 11 = .ok (.aload_n 0, 1) := by decide +kernel
theorem d_R_oneIsTornBy_12 : decode b_R_oneIsTornBy 12 = .ok (.getfield 9, 3) := by decide +kernel
theorem d_R_oneIsTornBy_15 : decode b_R_oneIsTornBy 15 = .ok (.arraylength, 1) := by decide +kernel
theorem d_R_oneIsTornBy_16 : decode b_R_oneIsTornBy 16 = .ok (.if_icmp .ge 34, 3) := by decide +kernel
theorem d_R_oneIsTornBy_19 : decode b_R_oneIsTornBy 19 = .ok (.aload_n 0, 1) := by decide +kernel
theorem d_R_oneIsTornBy_20 : decode b_R_oneIsTornBy 20 = .ok (.getfield 9, 3) := by decide +kernel
theorem d_R_oneIsTornBy_23 : decode b_R_oneIsTornBy 23 = .ok (.iload_n 2, 1) := by decide +kernel
theorem d_R_oneIsTornBy_24 : decode b_R_oneIsTornBy 24 = .ok (.iaload, 1) := by decide +kernel
theorem d_R_oneIsTornBy_25 : decode b_R_oneIsTornBy 25 = .ok (.iload_n 1, 1) := by decide +kernel
theorem d_R_oneIsTornBy_26 : decode b_R_oneIsTornBy 26 = .ok (.iand, 1) := by decide +kernel
theorem d_R_oneIsTornBy_27 : decode b_R_oneIsTornBy 27 = .ok (.istore_n 3, 1) := by decide +kernel
theorem d_R_oneIsTornBy_28 : decode b_R_oneIsTornBy 28 = .ok (.iload_n 3, 1) := by decide +kernel
theorem d_R_oneIsTornBy_29 : decode b_R_oneIsTornBy 29 = .ok (.ifCond .eq 15, 3) := by decide +kernel
theorem d_R_oneIsTornBy_32 : decode b_R_oneIsTornBy 32 = .ok (.iload_n 3, 1) := by decide +kernel
theorem d_R_oneIsTornBy_33 : decode b_R_oneIsTornBy 33 = .ok (.aload_n 0, 1) := by decide +kernel
theorem d_R_oneIsTornBy_34 : decode b_R_oneIsTornBy 34 = .ok (.getfield 9, 3) := by decide +kernel
theorem d_R_oneIsTornBy_37 : decode b_R_oneIsTornBy 37 = .ok (.iload_n 2, 1) := by decide +kernel
theorem d_R_oneIsTornBy_38 : decode b_R_oneIsTornBy 38 = .ok (.iaload, 1) := by decide +kernel
theorem d_R_oneIsTornBy_39 : decode b_R_oneIsTornBy 39 = .ok (.if_icmp .eq 5, 3) := by decide +kernel
theorem d_R_oneIsTornBy_42 : decode b_R_oneIsTornBy 42 = .ok (.iconst 1, 1) := by decide +kernel
theorem d_R_oneIsTornBy_43 : decode b_R_oneIsTornBy 43 = .ok (.ireturn, 1) := by decide +kernel
theorem d_R_oneIsTornBy_44 : decode b_R_oneIsTornBy 44 = .ok (.iinc 2 1, 3) := by decide +kernel
theorem d_R_oneIsTornBy_47 : decode b_R_oneIsTornBy 47 = .ok (.goto (-45), 3) := by decide +kernel
theorem d_R_oneIsTornBy_50 : decode b_R_oneIsTornBy 50 = .ok (.iconst 0, 1) := by decide +kernel
theorem d_R_oneIsTornBy_51 : decode b_R_oneIsTornBy 51 = .ok (.ireturn, 1) := by decide +kernel
theorem d_D_afterOneGoing_0 : decode b_D_afterOneGoing 0 = .ok (.iload_n 1, 1) := by decide +kernel
theorem d_D_afterOneGoing_1 : decode b_D_afterOneGoing 1 = .ok (.istore_n 2, 1) := by decide +kernel
theorem d_D_afterOneGoing_2 : decode b_D_afterOneGoing 2 = .ok (.bipush 20, 2) := by decide +kernel
theorem d_D_afterOneGoing_4 : decode b_D_afterOneGoing 4 = .ok (.istore_n 3, 1) := by decide +kernel
theorem d_D_afterOneGoing_5 : decode b_D_afterOneGoing 5 = .ok (.iload_n 3, 1) := by decide +kernel
theorem d_D_afterOneGoing_6 : decode b_D_afterOneGoing 6 = .ok (.ifCond .lt 35, 3) := by decide +kernel
theorem d_D_afterOneGoing_9 : decode b_D_afterOneGoing 9 = .ok (.iload_n 3, 1) := by decide +kernel
theorem d_D_afterOneGoing_10 : decode b_D_afterOneGoing 10 = .ok (.iload_n 2, 1) := by decide +kernel
theorem d_D_afterOneGoing_11 : decode b_D_afterOneGoing 11 = .ok (.invokestatic 91, 3) := by decide +kernel
theorem d_D_afterOneGoing_14 : decode b_D_afterOneGoing 14 = .ok (.ifCond .eq 21, 3) := by decide +kernel
theorem d_D_afterOneGoing_17 : decode b_D_afterOneGoing 17 = .ok (.aload_n 0, 1) := by decide +kernel
theorem d_D_afterOneGoing_18 : decode b_D_afterOneGoing 18 = .ok (.iload_n 3, 1) := by decide +kernel
theorem d_D_afterOneGoing_19 : decode b_D_afterOneGoing 19 = .ok (.iload_n 2, 1) := by decide +kernel
theorem d_D_afterOneGoing_20 : decode b_D_afterOneGoing 20 = .ok (.invokestatic 97, 3) := by decide +kernel
theorem d_D_afterOneGoing_23 : decode b_D_afterOneGoing 23 = .ok (.invokevirtual 94, 3) := by decide +kernel
theorem d_D_afterOneGoing_26 : decode b_D_afterOneGoing 26 = .ok (.ifCond .eq 9, 3) := by decide +kernel
theorem d_D_afterOneGoing_29 : decode b_D_afterOneGoing 29 = .ok (.iload_n 3, 1) := by decide +kernel
theorem d_D_afterOneGoing_30 : decode b_D_afterOneGoing 30 = .ok (.iload_n 2, 1) := by decide +kernel
theorem d_D_afterOneGoing_31 : decode b_D_afterOneGoing 31 = .ok (.invokestatic 97, 3) := by decide +kernel
theorem d_D_afterOneGoing_34 : decode b_D_afterOneGoing 34 = .ok (.istore_n 2, 1) := by decide +kernel
theorem d_D_afterOneGoing_35 : decode b_D_afterOneGoing 35 = .ok (.iinc 3 (-1), 3) := by decide +kernel
theorem d_D_afterOneGoing_38 : decode b_D_afterOneGoing 38 = .ok (.goto (-33), 3) := by decide +kernel
theorem d_D_afterOneGoing_41 : decode b_D_afterOneGoing 41 = .ok (.iload_n 2, 1) := by decide +kernel
theorem d_D_afterOneGoing_42 : decode b_D_afterOneGoing 42 = .ok (.ireturn, 1) := by decide +kernel
theorem d_D_isIn_0 : decode b_D_isIn 0 = .ok (.iload_n 1, 1) := by decide +kernel
theorem d_D_isIn_1 : decode b_D_isIn 1 = .ok (.iconst 1, 1) := by decide +kernel
theorem d_D_isIn_2 : decode b_D_isIn 2 = .ok (.iload_n 0, 1) := by decide +kernel
theorem d_D_isIn_3 : decode b_D_isIn 3 = .ok (.ishl, 1) := by decide +kernel
theorem d_D_isIn_4 : decode b_D_isIn 4 = .ok (.iand, 1) := by decide +kernel
theorem d_D_isIn_5 : decode b_D_isIn 5 = .ok (.ifCond .eq 7, 3) := by decide +kernel
theorem d_D_isIn_8 : decode b_D_isIn 8 = .ok (.iconst 1, 1) := by decide +kernel
theorem d_D_isIn_9 : decode b_D_isIn 9 = .ok (.goto 4, 3) := by decide +kernel
theorem d_D_isIn_12 : decode b_D_isIn 12 = .ok (.iconst 0, 1) := by decide +kernel
theorem d_D_isIn_13 : decode b_D_isIn 13 = .ok (.ireturn, 1) := by decide +kernel
theorem d_D_without_0 : decode b_D_without 0 = .ok (.iload_n 1, 1) := by decide +kernel
theorem d_D_without_1 : decode b_D_without 1 = .ok (.iconst 1, 1) := by decide +kernel
theorem d_D_without_2 : decode b_D_without 2 = .ok (.iload_n 0, 1) := by decide +kernel
theorem d_D_without_3 : decode b_D_without 3 = .ok (.ishl, 1) := by decide +kernel
theorem d_D_without_4 : decode b_D_without 4 = .ok (.iconst (-1), 1) := by decide +kernel
theorem d_D_without_5 : decode b_D_without 5 = .ok (.ixor, 1) := by decide +kernel
theorem d_D_without_6 : decode b_D_without 6 = .ok (.iand, 1) := by decide +kernel
theorem d_D_without_7 : decode b_D_without 7 = .ok (.ireturn, 1) := by decide +kernel
theorem d_J_bitCount_0 : decode b_J_bitCount 0 = .ok (.iload_n 0, 1) := by decide +kernel
theorem d_J_bitCount_1 : decode b_J_bitCount 1 = .ok (.iload_n 0, 1) := by decide +kernel
theorem d_J_bitCount_2 : decode b_J_bitCount 2 = .ok (.iconst 1, 1) := by decide +kernel
theorem d_J_bitCount_3 : decode b_J_bitCount 3 = .ok (.iushr, 1) := by decide +kernel
theorem d_J_bitCount_4 : decode b_J_bitCount 4 = .ok (.ldc_w 265, 3) := by decide +kernel
theorem d_J_bitCount_7 : decode b_J_bitCount 7 = .ok (.iand, 1) := by decide +kernel
theorem d_J_bitCount_8 : decode b_J_bitCount 8 = .ok (.isub, 1) := by decide +kernel
theorem d_J_bitCount_9 : decode b_J_bitCount 9 = .ok (.istore_n 0, 1) := by decide +kernel
theorem d_J_bitCount_10 : decode b_J_bitCount 10 = .ok (.iload_n 0, 1) := by decide +kernel
theorem d_J_bitCount_11 : decode b_J_bitCount 11 = .ok (.ldc_w 266, 3) := by decide +kernel
theorem d_J_bitCount_14 : decode b_J_bitCount 14 = .ok (.iand, 1) := by decide +kernel
theorem d_J_bitCount_15 : decode b_J_bitCount 15 = .ok (.iload_n 0, 1) := by decide +kernel
theorem d_J_bitCount_16 : decode b_J_bitCount 16 = .ok (.iconst 2, 1) := by decide +kernel
theorem d_J_bitCount_17 : decode b_J_bitCount 17 = .ok (.iushr, 1) := by decide +kernel
theorem d_J_bitCount_18 : decode b_J_bitCount 18 = .ok (.ldc_w 266, 3) := by decide +kernel
theorem d_J_bitCount_21 : decode b_J_bitCount 21 = .ok (.iand, 1) := by decide +kernel
theorem d_J_bitCount_22 : decode b_J_bitCount 22 = .ok (.iadd, 1) := by decide +kernel
theorem d_J_bitCount_23 : decode b_J_bitCount 23 = .ok (.istore_n 0, 1) := by decide +kernel
theorem d_J_bitCount_24 : decode b_J_bitCount 24 = .ok (.iload_n 0, 1) := by decide +kernel
theorem d_J_bitCount_25 : decode b_J_bitCount 25 = .ok (.iload_n 0, 1) := by decide +kernel
theorem d_J_bitCount_26 : decode b_J_bitCount 26 = .ok (.iconst 4, 1) := by decide +kernel
theorem d_J_bitCount_27 : decode b_J_bitCount 27 = .ok (.iushr, 1) := by decide +kernel
theorem d_J_bitCount_28 : decode b_J_bitCount 28 = .ok (.iadd, 1) := by decide +kernel
theorem d_J_bitCount_29 : decode b_J_bitCount 29 = .ok (.ldc_w 267, 3) := by decide +kernel
theorem d_J_bitCount_32 : decode b_J_bitCount 32 = .ok (.iand, 1) := by decide +kernel
theorem d_J_bitCount_33 : decode b_J_bitCount 33 = .ok (.istore_n 0, 1) := by decide +kernel
theorem d_J_bitCount_34 : decode b_J_bitCount 34 = .ok (.iload_n 0, 1) := by decide +kernel
theorem d_J_bitCount_35 : decode b_J_bitCount 35 = .ok (.iload_n 0, 1) := by decide +kernel
theorem d_J_bitCount_36 : decode b_J_bitCount 36 = .ok (.bipush 8, 2) := by decide +kernel
theorem d_J_bitCount_38 : decode b_J_bitCount 38 = .ok (.iushr, 1) := by decide +kernel
theorem d_J_bitCount_39 : decode b_J_bitCount 39 = .ok (.iadd, 1) := by decide +kernel
theorem d_J_bitCount_40 : decode b_J_bitCount 40 = .ok (.istore_n 0, 1) := by decide +kernel
theorem d_J_bitCount_41 : decode b_J_bitCount 41 = .ok (.iload_n 0, 1) := by decide +kernel
theorem d_J_bitCount_42 : decode b_J_bitCount 42 = .ok (.iload_n 0, 1) := by decide +kernel
theorem d_J_bitCount_43 : decode b_J_bitCount 43 = .ok (.bipush 16, 2) := by decide +kernel
theorem d_J_bitCount_45 : decode b_J_bitCount 45 = .ok (.iushr, 1) := by decide +kernel
theorem d_J_bitCount_46 : decode b_J_bitCount 46 = .ok (.iadd, 1) := by decide +kernel
theorem d_J_bitCount_47 : decode b_J_bitCount 47 = .ok (.istore_n 0, 1) := by decide +kernel
theorem d_J_bitCount_48 : decode b_J_bitCount 48 = .ok (.iload_n 0, 1) := by decide +kernel
theorem d_J_bitCount_49 : decode b_J_bitCount 49 = .ok (.bipush 63, 2) := by decide +kernel
theorem d_J_bitCount_51 : decode b_J_bitCount 51 = .ok (.iand, 1) := by decide +kernel
theorem d_J_bitCount_52 : decode b_J_bitCount 52 = .ok (.ireturn, 1) := by decide +kernel
theorem d_D_left_0 : decode b_D_left 0 = .ok (.iconst 0, 1) := by decide +kernel
theorem d_D_left_1 : decode b_D_left 1 = .ok (.istore_n 2, 1) := by decide +kernel
theorem d_D_left_2 : decode b_D_left 2 = .ok (.iconst 0, 1) := by decide +kernel
theorem d_D_left_3 : decode b_D_left 3 = .ok (.istore_n 3, 1) := by decide +kernel
theorem d_D_left_4 : decode b_D_left 4 = .ok (.iload_n 3, 1) := by decide +kernel
theorem d_D_left_5 : decode b_D_left 5 = .ok (.aload_n 0, 1) := by decide +kernel
theorem d_D_left_6 : decode b_D_left 6 = .ok (.getfield 12, 3) := by decide +kernel
theorem d_D_left_9 : decode b_D_left 9 = .ok (.invokevirtual 55, 3) := by decide +kernel
theorem d_D_left_12 : decode b_D_left 12 = .ok (.if_icmp .ge 30, 3) := by decide +kernel
theorem d_D_left_15 : decode b_D_left 15 = .ok (.iload_n 3, 1) := by decide +kernel
theorem d_D_left_16 : decode b_D_left 16 = .ok (.aload_n 0, 1) := by decide +kernel
theorem d_D_left_17 : decode b_D_left 17 = .ok (.getfield 32, 3) := by decide +kernel
theorem d_D_left_20 : decode b_D_left 20 = .ok (.invokestatic 91, 3) := by decide +kernel
theorem d_D_left_23 : decode b_D_left 23 = .ok (.ifCond .eq 13, 3) := by decide +kernel
theorem d_D_left_26 : decode b_D_left 26 = .ok (.iload_n 2, 1) := by decide +kernel
theorem d_D_left_27 : decode b_D_left 27 = .ok (.iload_n 1, 1) := by decide +kernel
theorem d_D_left_28 : decode b_D_left 28 = .ok (.if_icmp .ne 5, 3) := by decide +kernel
theorem d_D_left_31 : decode b_D_left 31 = .ok (.iload_n 3, 1) := by decide +kernel
theorem d_D_left_32 : decode b_D_left 32 = .ok (.ireturn, 1) := by decide +kernel
theorem d_D_left_33 : decode b_D_left 33 = .ok (.iinc 2 1, 3) := by decide +kernel
theorem d_D_left_36 : decode b_D_left 36 = .ok (.iinc 3 1, 3) := by decide +kernel
theorem d_D_left_39 : decode b_D_left 39 = .ok (.goto (-35), 3) := by decide +kernel
theorem d_D_left_42 : decode b_D_left 42 = .ok (.iconst (-1), 1) := by decide +kernel
theorem d_D_left_43 : decode b_D_left 43 = .ok (.ireturn, 1) := by decide +kernel
theorem d_D_minimal_0 : decode b_D_minimal 0 = .ok (.aload_n 0, 1) := by decide +kernel
theorem d_D_minimal_1 : decode b_D_minimal 1 = .ok (.aload_n 0, 1) := by decide +kernel
theorem d_D_minimal_2 : decode b_D_minimal 2 = .ok (.getfield 32, 3) := by decide +kernel
theorem d_D_minimal_5 : decode b_D_minimal 5 = .ok (.invokevirtual 94, 3) := by decide +kernel
theorem d_D_minimal_8 : decode b_D_minimal 8 = .ok (.ifCond .ne 5, 3) := by decide +kernel
theorem d_D_minimal_11 : decode b_D_minimal 11 = .ok (.iconst 0, 1) := by decide +kernel
theorem d_D_minimal_12 : decode b_D_minimal 12 = .ok (.ireturn, 1) := by decide +kernel
theorem d_D_minimal_13 : decode b_D_minimal 13 = .ok (.iconst 0, 1) := by decide +kernel
theorem d_D_minimal_14 : decode b_D_minimal 14 = .ok (.istore_n 1, 1) := by decide +kernel
theorem d_D_minimal_15 : decode b_D_minimal 15 = .ok (.iload_n 1, 1) := by decide +kernel
theorem d_D_minimal_16 : decode b_D_minimal 16 = .ok (.aload_n 0, 1) := by decide +kernel
theorem d_D_minimal_17 : decode b_D_minimal 17 = .ok (.getfield 12, 3) := by decide +kernel
theorem d_D_minimal_20 : decode b_D_minimal 20 = .ok (.invokevirtual 55, 3) := by decide +kernel
theorem d_D_minimal_23 : decode b_D_minimal 23 = .ok (.if_icmp .ge 37, 3) := by decide +kernel
theorem d_D_minimal_26 : decode b_D_minimal 26 = .ok (.iload_n 1, 1) := by decide +kernel
theorem d_D_minimal_27 : decode b_D_minimal 27 = .ok (.aload_n 0, 1) := by decide +kernel
theorem d_D_minimal_28 : decode b_D_minimal 28 = .ok (.getfield 32, 3) := by decide +kernel
theorem d_D_minimal_31 : decode b_D_minimal 31 = .ok (.invokestatic 91, 3) := by decide +kernel
theorem d_D_minimal_34 : decode b_D_minimal 34 = .ok (.ifCond .eq 20, 3) := by decide +kernel
theorem d_D_minimal_37 : decode b_D_minimal 37 = .ok (.aload_n 0, 1) := by decide +kernel
theorem d_D_minimal_38 : decode b_D_minimal 38 = .ok (.iload_n 1, 1) := by decide +kernel
theorem d_D_minimal_39 : decode b_D_minimal 39 = .ok (.aload_n 0, 1) := by decide +kernel
theorem d_D_minimal_40 : decode b_D_minimal 40 = .ok (.getfield 32, 3) := by decide +kernel
theorem d_D_minimal_43 : decode b_D_minimal 43 = .ok (.invokestatic 97, 3) := by decide +kernel
theorem d_D_minimal_46 : decode b_D_minimal 46 = .ok (.invokevirtual 94, 3) := by decide +kernel
theorem d_D_minimal_49 : decode b_D_minimal 49 = .ok (.ifCond .eq 5, 3) := by decide +kernel
theorem d_D_minimal_52 : decode b_D_minimal 52 = .ok (.iconst 0, 1) := by decide +kernel
theorem d_D_minimal_53 : decode b_D_minimal 53 = .ok (.ireturn, 1) := by decide +kernel
theorem d_D_minimal_54 : decode b_D_minimal 54 = .ok (.iinc 1 1, 3) := by decide +kernel
theorem d_D_minimal_57 : decode b_D_minimal 57 = .ok (.goto (-42), 3) := by decide +kernel
theorem d_D_minimal_60 : decode b_D_minimal 60 = .ok (.iconst 1, 1) := by decide +kernel
theorem d_D_minimal_61 : decode b_D_minimal 61 = .ok (.ireturn, 1) := by decide +kernel
theorem d_D_same_0 : decode b_D_same 0 = .ok (.iload_n 3, 1) := by decide +kernel
theorem d_D_same_1 : decode b_D_same 1 = .ok (.iload 4, 2) := by decide +kernel
theorem d_D_same_3 : decode b_D_same 3 = .ok (.invokestatic 40, 3) := by decide +kernel
theorem d_D_same_6 : decode b_D_same 6 = .ok (.ifCond .ne 5, 3) := by decide +kernel
theorem d_D_same_9 : decode b_D_same 9 = .ok (.iconst 0, 1) := by decide +kernel
theorem d_D_same_10 : decode b_D_same 10 = .ok (.ireturn, 1) := by decide +kernel
theorem d_D_same_11 : decode b_D_same 11 = .ok (.aload_n 0, 1) := by decide +kernel
theorem d_D_same_12 : decode b_D_same 12 = .ok (.getfield 16, 3) := by decide +kernel
theorem d_D_same_15 : decode b_D_same 15 = .ok (.aload_n 0, 1) := by decide +kernel
theorem d_D_same_16 : decode b_D_same 16 = .ok (.getfield 36, 3) := by decide +kernel
theorem d_D_same_19 : decode b_D_same 19 = .ok (.iload_n 3, 1) := by decide +kernel
theorem d_D_same_20 : decode b_D_same 20 = .ok (.iload 4, 2) := by decide +kernel
theorem d_D_same_22 : decode b_D_same 22 = .ok (.invokevirtual 44, 3) := by decide +kernel
theorem d_D_same_25 : decode b_D_same 25 = .ok (.aload_n 0, 1) := by decide +kernel
theorem d_D_same_26 : decode b_D_same 26 = .ok (.getfield 19, 3) := by decide +kernel
theorem d_D_same_29 : decode b_D_same 29 = .ok (.lload_n 1, 1) := by decide +kernel
theorem d_D_same_30 : decode b_D_same 30 = .ok (.iload_n 3, 1) := by decide +kernel
theorem d_D_same_31 : decode b_D_same 31 = .ok (.iload 4, 2) := by decide +kernel
theorem d_D_same_33 : decode b_D_same 33 = .ok (.invokevirtual 44, 3) := by decide +kernel
theorem d_D_same_36 : decode b_D_same 36 = .ok (.aload_n 0, 1) := by decide +kernel
theorem d_D_same_37 : decode b_D_same 37 = .ok (.invokevirtual 100, 3) := by decide +kernel
theorem d_D_same_40 : decode b_D_same 40 = .ok (.ifCond .eq 14, 3) := by decide +kernel
theorem d_D_same_43 : decode b_D_same 43 = .ok (.aload_n 0, 1) := by decide +kernel
theorem d_D_same_44 : decode b_D_same 44 = .ok (.invokevirtual 104, 3) := by decide +kernel
theorem d_D_same_47 : decode b_D_same 47 = .ok (.ifCond .eq 7, 3) := by decide +kernel
theorem d_D_same_50 : decode b_D_same 50 = .ok (.iconst 1, 1) := by decide +kernel
theorem d_D_same_51 : decode b_D_same 51 = .ok (.goto 4, 3) := by decide +kernel
theorem d_D_same_54 : decode b_D_same 54 = .ok (.iconst 0, 1) := by decide +kernel
theorem d_D_same_55 : decode b_D_same 55 = .ok (.ireturn, 1) := by decide +kernel
theorem d_D_sameParts_0 : decode b_D_sameParts 0 = .ok (.iconst 0, 1) := by decide +kernel
theorem d_D_sameParts_1 : decode b_D_sameParts 1 = .ok (.istore_n 1, 1) := by decide +kernel
theorem d_D_sameParts_2 : decode b_D_sameParts 2 = .ok (.iload_n 1, 1) := by decide +kernel
theorem d_D_sameParts_3 : decode b_D_sameParts 3 = .ok (.bipush 21, 2) := by decide +kernel
theorem d_D_sameParts_5 : decode b_D_sameParts 5 = .ok (.if_icmp .ge 45, 3) := by decide +kernel
theorem d_D_sameParts_8 : decode b_D_sameParts 8 = .ok (.iconst 0, 1) := by decide +kernel
theorem d_D_sameParts_9 : decode b_D_sameParts 9 = .ok (.istore_n 2, 1) := by decide +kernel
theorem d_D_sameParts_10 : decode b_D_sameParts 10 = .ok (.iload_n 2, 1) := by decide +kernel
theorem d_D_sameParts_11 : decode b_D_sameParts 11 = .ok (.iconst 3, 1) := by decide +kernel
theorem d_D_sameParts_12 : decode b_D_sameParts 12 = .ok (.if_icmp .ge 32, 3) := by decide +kernel
theorem d_D_sameParts_15 : decode b_D_sameParts 15 = .ok (.aload_n 0, 1) := by decide +kernel
theorem d_D_sameParts_16 : decode b_D_sameParts 16 = .ok (.getfield 16, 3) := by decide +kernel
theorem d_D_sameParts_19 : decode b_D_sameParts 19 = .ok (.iload_n 1, 1) := by decide +kernel
theorem d_D_sameParts_20 : decode b_D_sameParts 20 = .ok (.iload_n 2, 1) := by decide +kernel
theorem d_D_sameParts_21 : decode b_D_sameParts 21 = .ok (.invokevirtual 58, 3) := by decide +kernel
theorem d_D_sameParts_24 : decode b_D_sameParts 24 = .ok (.aload_n 0, 1) := by decide +kernel
theorem d_D_sameParts_25 : decode b_D_sameParts 25 = .ok (.getfield 19, 3) := by decide +kernel
theorem d_D_sameParts_28 : decode b_D_sameParts 28 = .ok (.iload_n 1, 1) := by decide +kernel
theorem d_D_sameParts_29 : decode b_D_sameParts 29 = .ok (.iload_n 2, 1) := by decide +kernel
theorem d_D_sameParts_30 : decode b_D_sameParts 30 = .ok (.invokevirtual 58, 3) := by decide +kernel
theorem d_D_sameParts_33 : decode b_D_sameParts 33 = .ok (.if_icmp .eq 5, 3) := by decide +kernel
theorem d_D_sameParts_36 : decode b_D_sameParts 36 = .ok (.iconst 0, 1) := by decide +kernel
theorem d_D_sameParts_37 : decode b_D_sameParts 37 = .ok (.ireturn, 1) := by decide +kernel
theorem d_D_sameParts_38 : decode b_D_sameParts 38 = .ok (.iinc 2 1, 3) := by decide +kernel
theorem d_D_sameParts_41 : decode b_D_sameParts 41 = .ok (.goto (-31), 3) := by decide +kernel
theorem d_D_sameParts_44 : decode b_D_sameParts 44 = .ok (.iinc 1 1, 3) := by decide +kernel
theorem d_D_sameParts_47 : decode b_D_sameParts 47 = .ok (.goto (-45), 3) := by decide +kernel
theorem d_D_sameParts_50 : decode b_D_sameParts 50 = .ok (.iconst 1, 1) := by decide +kernel
theorem d_D_sameParts_51 : decode b_D_sameParts 51 = .ok (.ireturn, 1) := by decide +kernel
theorem d_D_sameSigns_0 : decode b_D_sameSigns 0 = .ok (.iconst 0, 1) := by decide +kernel
theorem d_D_sameSigns_1 : decode b_D_sameSigns 1 = .ok (.istore_n 1, 1) := by decide +kernel
theorem d_D_sameSigns_2 : decode b_D_sameSigns 2 = .ok (.iload_n 1, 1) := by decide +kernel
theorem d_D_sameSigns_3 : decode b_D_sameSigns 3 = .ok (.sipush 147, 3) := by decide +kernel
theorem d_D_sameSigns_6 : decode b_D_sameSigns 6 = .ok (.if_icmp .ge 30, 3) := by decide +kernel
theorem d_D_sameSigns_9 : decode b_D_sameSigns 9 = .ok (.aload_n 0, 1) := by decide +kernel
theorem d_D_sameSigns_10 : decode b_D_sameSigns 10 = .ok (.getfield 16, 3) := by decide +kernel
theorem d_D_sameSigns_13 : decode b_D_sameSigns 13 = .ok (.iload_n 1, 1) := by decide +kernel
theorem d_D_sameSigns_14 : decode b_D_sameSigns 14 = .ok (.invokevirtual 62, 3) := by decide +kernel
theorem d_D_sameSigns_17 : decode b_D_sameSigns 17 = .ok (.aload_n 0, 1) := by decide +kernel
theorem d_D_sameSigns_18 : decode b_D_sameSigns 18 = .ok (.getfield 19, 3) := by decide +kernel
theorem d_D_sameSigns_21 : decode b_D_sameSigns 21 = .ok (.iload_n 1, 1) := by decide +kernel
theorem d_D_sameSigns_22 : decode b_D_sameSigns 22 = .ok (.invokevirtual 62, 3) := by decide +kernel
theorem d_D_sameSigns_25 : decode b_D_sameSigns 25 = .ok (.if_icmp .eq 5, 3) := by decide +kernel
theorem d_D_sameSigns_28 : decode b_D_sameSigns 28 = .ok (.iconst 0, 1) := by decide +kernel
theorem d_D_sameSigns_29 : decode b_D_sameSigns 29 = .ok (.ireturn, 1) := by decide +kernel
theorem d_D_sameSigns_30 : decode b_D_sameSigns 30 = .ok (.iinc 1 1, 3) := by decide +kernel
theorem d_D_sameSigns_33 : decode b_D_sameSigns 33 = .ok (.goto (-31), 3) := by decide +kernel
theorem d_D_sameSigns_36 : decode b_D_sameSigns 36 = .ok (.iconst 1, 1) := by decide +kernel
theorem d_D_sameSigns_37 : decode b_D_sameSigns 37 = .ok (.ireturn, 1) := by decide +kernel
theorem d_L_cell_0 : decode b_L_cell 0 = .ok (.iload_n 1, 1) := by decide +kernel
theorem d_L_cell_1 : decode b_L_cell 1 = .ok (.aload_n 0, 1) := by decide +kernel
theorem d_L_cell_2 : decode b_L_cell 2 = .ok (.arraylength, 1) := by decide +kernel
theorem d_L_cell_3 : decode b_L_cell 3 = .ok (.if_icmp .ge 9, 3) := by decide +kernel
theorem d_L_cell_6 : decode b_L_cell 6 = .ok (.aload_n 0, 1) := by decide +kernel
theorem d_L_cell_7 : decode b_L_cell 7 = .ok (.iload_n 1, 1) := by decide +kernel
theorem d_L_cell_8 : decode b_L_cell 8 = .ok (.iaload, 1) := by decide +kernel
theorem d_L_cell_9 : decode b_L_cell 9 = .ok (.goto 4, 3) := by decide +kernel
theorem d_L_cell_12 : decode b_L_cell 12 = .ok (.iconst 0, 1) := by decide +kernel
theorem d_L_cell_13 : decode b_L_cell 13 = .ok (.ireturn, 1) := by decide +kernel
theorem d_M_init_0 : decode b_M_init 0 = .ok (.aload_n 0, 1) := by decide +kernel
theorem d_M_init_1 : decode b_M_init 1 = .ok (.invokespecial 1, 3) := by decide +kernel
theorem d_M_init_4 : decode b_M_init 4 = .ok (.aload_n 0, 1) := by decide +kernel
theorem d_M_init_5 : decode b_M_init 5 = .ok (.iconst (-1), 1) := by decide +kernel
theorem d_M_init_6 : decode b_M_init 6 = .ok (.putfield 9, 3) := by decide +kernel
theorem d_M_init_9 : decode b_M_init 9 = .ok (.aload_n 0, 1) := by decide +kernel
theorem d_M_init_10 : decode b_M_init 10 = .ok (.sipush 189, 3) := by decide +kernel
theorem d_M_init_13 : decode b_M_init 13 = .ok (.newarray .int, 2) := by decide +kernel
theorem d_M_init_15 : decode b_M_init 15 = .ok (.putfield 13, 3) := by decide +kernel
theorem d_M_init_18 : decode b_M_init 18 = .ok (.aload_n 0, 1) := by decide +kernel
theorem d_M_init_19 : decode b_M_init 19 = .ok (.sipush 378, 3) := by decide +kernel
theorem d_M_init_22 : decode b_M_init 22 = .ok (.newarray .byte, 2) := by decide +kernel
theorem d_M_init_24 : decode b_M_init 24 = .ok (.putfield 17, 3) := by decide +kernel
theorem d_M_init_27 : decode b_M_init 27 = .ok (.aload_n 0, 1) := by decide +kernel
theorem d_M_init_28 : decode b_M_init 28 = .ok (.bipush 12, 2) := by decide +kernel
theorem d_M_init_30 : decode b_M_init 30 = .ok (.newarray .int, 2) := by decide +kernel
theorem d_M_init_32 : decode b_M_init 32 = .ok (.putfield 21, 3) := by decide +kernel
theorem d_M_init_35 : decode b_M_init 35 = .ok (.aload_n 0, 1) := by decide +kernel
theorem d_M_init_36 : decode b_M_init 36 = .ok (.lload_n 1, 1) := by decide +kernel
theorem d_M_init_37 : decode b_M_init 37 = .ok (.putfield 24, 3) := by decide +kernel
theorem d_M_init_40 : decode b_M_init 40 = .ok (.return_, 1) := by decide +kernel
theorem d_M_draw_0 : decode b_M_draw 0 = .ok (.aload_n 0, 1) := by decide +kernel
theorem d_M_draw_1 : decode b_M_draw 1 = .ok (.iconst 0, 1) := by decide +kernel
theorem d_M_draw_2 : decode b_M_draw 2 = .ok (.putfield 28, 3) := by decide +kernel
theorem d_M_draw_5 : decode b_M_draw 5 = .ok (.iload_n 1, 1) := by decide +kernel
theorem d_M_draw_6 : decode b_M_draw 6 = .ok (.iload_n 2, 1) := by decide +kernel
theorem d_M_draw_7 : decode b_M_draw 7 = .ok (.invokestatic 68, 3) := by decide +kernel
theorem d_M_draw_10 : decode b_M_draw 10 = .ok (.ifCond .ne 5, 3) := by decide +kernel
theorem d_M_draw_13 : decode b_M_draw 13 = .ok (.iconst (-1), 1) := by decide +kernel
theorem d_M_draw_14 : decode b_M_draw 14 = .ok (.ireturn, 1) := by decide +kernel
theorem d_M_draw_15 : decode b_M_draw 15 = .ok (.aload_n 0, 1) := by decide +kernel
theorem d_M_draw_16 : decode b_M_draw 16 = .ok (.iconst 0, 1) := by decide +kernel
theorem d_M_draw_17 : decode b_M_draw 17 = .ok (.aload_n 0, 1) := by decide +kernel
theorem d_M_draw_18 : decode b_M_draw 18 = .ok (.getfield 24, 3) := by decide +kernel
theorem d_M_draw_21 : decode b_M_draw 21 = .ok (.iload_n 1, 1) := by decide +kernel
theorem d_M_draw_22 : decode b_M_draw 22 = .ok (.iload_n 2, 1) := by decide +kernel
theorem d_M_draw_23 : decode b_M_draw 23 = .ok (.invokevirtual 72, 3) := by decide +kernel
theorem d_M_draw_26 : decode b_M_draw 26 = .ok (.aload_n 0, 1) := by decide +kernel
theorem d_M_draw_27 : decode b_M_draw 27 = .ok (.iload_n 1, 1) := by decide +kernel
theorem d_M_draw_28 : decode b_M_draw 28 = .ok (.putfield 9, 3) := by decide +kernel
theorem d_M_draw_31 : decode b_M_draw 31 = .ok (.aload_n 0, 1) := by decide +kernel
theorem d_M_draw_32 : decode b_M_draw 32 = .ok (.iload_n 2, 1) := by decide +kernel
theorem d_M_draw_33 : decode b_M_draw 33 = .ok (.iconst 1, 1) := by decide +kernel
theorem d_M_draw_34 : decode b_M_draw 34 = .ok (.iadd, 1) := by decide +kernel
theorem d_M_draw_35 : decode b_M_draw 35 = .ok (.putfield 65, 3) := by decide +kernel
theorem d_M_draw_38 : decode b_M_draw 38 = .ok (.aload_n 0, 1) := by decide +kernel
theorem d_M_draw_39 : decode b_M_draw 39 = .ok (.iconst 0, 1) := by decide +kernel
theorem d_M_draw_40 : decode b_M_draw 40 = .ok (.putfield 76, 3) := by decide +kernel
theorem d_M_draw_43 : decode b_M_draw 43 = .ok (.aload_n 0, 1) := by decide +kernel
theorem d_M_draw_44 : decode b_M_draw 44 = .ok (.iconst 0, 1) := by decide +kernel
theorem d_M_draw_45 : decode b_M_draw 45 = .ok (.putfield 79, 3) := by decide +kernel
theorem d_M_draw_48 : decode b_M_draw 48 = .ok (.aload_n 0, 1) := by decide +kernel
theorem d_M_draw_49 : decode b_M_draw 49 = .ok (.aload_n 0, 1) := by decide +kernel
theorem d_M_draw_50 : decode b_M_draw 50 = .ok (.invokevirtual 82, 3) := by decide +kernel
theorem d_M_draw_53 : decode b_M_draw 53 = .ok (.putfield 86, 3) := by decide +kernel
theorem d_M_draw_56 : decode b_M_draw 56 = .ok (.aload_n 0, 1) := by decide +kernel
theorem d_M_draw_57 : decode b_M_draw 57 = .ok (.getfield 65, 3) := by decide +kernel
theorem d_M_draw_60 : decode b_M_draw 60 = .ok (.ireturn, 1) := by decide +kernel
theorem d_M_can_0 : decode b_M_can 0 = .ok (.iload_n 0, 1) := by decide +kernel
theorem d_M_can_1 : decode b_M_can 1 = .ok (.iconst 0, 1) := by decide +kernel
theorem d_M_can_2 : decode b_M_can 2 = .ok (.iconst 5, 1) := by decide +kernel
theorem d_M_can_3 : decode b_M_can 3 = .ok (.invokestatic 61, 3) := by decide +kernel
theorem d_M_can_6 : decode b_M_can 6 = .ok (.ifCond .eq 17, 3) := by decide +kernel
theorem d_M_can_9 : decode b_M_can 9 = .ok (.iload_n 1, 1) := by decide +kernel
theorem d_M_can_10 : decode b_M_can 10 = .ok (.iconst 0, 1) := by decide +kernel
theorem d_M_can_11 : decode b_M_can 11 = .ok (.bipush 20, 2) := by decide +kernel
theorem d_M_can_13 : decode b_M_can 13 = .ok (.invokestatic 61, 3) := by decide +kernel
theorem d_M_can_16 : decode b_M_can 16 = .ok (.ifCond .eq 7, 3) := by decide +kernel
theorem d_M_can_19 : decode b_M_can 19 = .ok (.iconst 1, 1) := by decide +kernel
theorem d_M_can_20 : decode b_M_can 20 = .ok (.goto 4, 3) := by decide +kernel
theorem d_M_can_23 : decode b_M_can 23 = .ok (.iconst 0, 1) := by decide +kernel
theorem d_M_can_24 : decode b_M_can 24 = .ok (.ireturn, 1) := by decide +kernel
theorem d_M_in_0 : decode b_M_in 0 = .ok (.iload_n 0, 1) := by decide +kernel
theorem d_M_in_1 : decode b_M_in 1 = .ok (.iload_n 1, 1) := by decide +kernel
theorem d_M_in_2 : decode b_M_in 2 = .ok (.if_icmp .lt 12, 3) := by decide +kernel
theorem d_M_in_5 : decode b_M_in 5 = .ok (.iload_n 0, 1) := by decide +kernel
theorem d_M_in_6 : decode b_M_in 6 = .ok (.iload_n 2, 1) := by decide +kernel
theorem d_M_in_7 : decode b_M_in 7 = .ok (.if_icmp .gt 7, 3) := by decide +kernel
theorem d_M_in_10 : decode b_M_in 10 = .ok (.iconst 1, 1) := by decide +kernel
theorem d_M_in_11 : decode b_M_in 11 = .ok (.goto 4, 3) := by decide +kernel
theorem d_M_in_14 : decode b_M_in 14 = .ok (.iconst 0, 1) := by decide +kernel
theorem d_M_in_15 : decode b_M_in 15 = .ok (.ireturn, 1) := by decide +kernel
theorem d_M_draws_0 : decode b_M_draws 0 = .ok (.aload_n 0, 1) := by decide +kernel
theorem d_M_draws_1 : decode b_M_draws 1 = .ok (.lload_n 2, 1) := by decide +kernel
theorem d_M_draws_2 : decode b_M_draws 2 = .ok (.ldc2_w 53, 3) := by decide +kernel
theorem d_M_draws_5 : decode b_M_draws 5 = .ok (.iload 4, 2) := by decide +kernel
theorem d_M_draws_7 : decode b_M_draws 7 = .ok (.i2l, 1) := by decide +kernel
theorem d_M_draws_8 : decode b_M_draws 8 = .ok (.lmul, 1) := by decide +kernel
theorem d_M_draws_9 : decode b_M_draws 9 = .ok (.ladd, 1) := by decide +kernel
theorem d_M_draws_10 : decode b_M_draws 10 = .ok (.ldc2_w 55, 3) := by decide +kernel
theorem d_M_draws_13 : decode b_M_draws 13 = .ok (.iload 5, 2) := by decide +kernel
theorem d_M_draws_15 : decode b_M_draws 15 = .ok (.i2l, 1) := by decide +kernel
theorem d_M_draws_16 : decode b_M_draws 16 = .ok (.lmul, 1) := by decide +kernel
theorem d_M_draws_17 : decode b_M_draws 17 = .ok (.ladd, 1) := by decide +kernel
theorem d_M_draws_18 : decode b_M_draws 18 = .ok (.putfield 31, 3) := by decide +kernel
theorem d_M_draws_21 : decode b_M_draws 21 = .ok (.iconst 0, 1) := by decide +kernel
theorem d_M_draws_22 : decode b_M_draws 22 = .ok (.istore 6, 2) := by decide +kernel
theorem d_M_draws_24 : decode b_M_draws 24 = .ok (.iload 6, 2) := by decide +kernel
theorem d_M_draws_26 : decode b_M_draws 26 = .ok (.iload 5, 2) := by decide +kernel
theorem d_M_draws_28 : decode b_M_draws 28 = .ok (.if_icmp .gt 20, 3) := by decide +kernel
theorem d_M_draws_31 : decode b_M_draws 31 = .ok (.aload_n 0, 1) := by decide +kernel
theorem d_M_draws_32 : decode b_M_draws 32 = .ok (.iload_n 1, 1) := by decide +kernel
theorem d_M_draws_33 : decode b_M_draws 33 = .ok (.iload 4, 2) := by decide +kernel
theorem d_M_draws_35 : decode b_M_draws 35 = .ok (.iload 6, 2) := by decide +kernel
theorem d_M_draws_37 : decode b_M_draws 37 = .ok (.iload 5, 2) := by decide +kernel
theorem d_M_draws_39 : decode b_M_draws 39 = .ok (.invokevirtual 57, 3) := by decide +kernel
theorem d_M_draws_42 : decode b_M_draws 42 = .ok (.iinc 6 1, 3) := by decide +kernel
theorem d_M_draws_45 : decode b_M_draws 45 = .ok (.goto (-21), 3) := by decide +kernel
theorem d_M_draws_48 : decode b_M_draws 48 = .ok (.return_, 1) := by decide +kernel
theorem d_M_part4_0 : decode b_M_part4 0 = .ok (.iload_n 1, 1) := by decide +kernel
theorem d_M_part4_1 : decode b_M_part4 1 = .ok (.iload_n 3, 1) := by decide +kernel
theorem d_M_part4_2 : decode b_M_part4 2 = .ok (.invokestatic 38, 3) := by decide +kernel
theorem d_M_part4_5 : decode b_M_part4 5 = .ok (.istore 5, 2) := by decide +kernel
theorem d_M_part4_7 : decode b_M_part4 7 = .ok (.iload_n 2, 1) := by decide +kernel
theorem d_M_part4_8 : decode b_M_part4 8 = .ok (.tableswitch 302 0 4 #[36, 45, 55, 127, 189], 36) := by decide +kernel
theorem d_M_part4_44 : decode b_M_part4 44 = .ok (.aload_n 0, 1) := by decide +kernel
theorem d_M_part4_45 : decode b_M_part4 45 = .ok (.iload_n 1, 1) := by decide +kernel
theorem d_M_part4_46 : decode b_M_part4 46 = .ok (.iload_n 3, 1) := by decide +kernel
theorem d_M_part4_47 : decode b_M_part4 47 = .ok (.invokevirtual 46, 3) := by decide +kernel
theorem d_M_part4_50 : decode b_M_part4 50 = .ok (.goto 322, 3) := by decide +kernel
theorem d_M_part4_53 : decode b_M_part4 53 = .ok (.aload_n 0, 1) := by decide +kernel
theorem d_M_part4_54 : decode b_M_part4 54 = .ok (.iload 5, 2) := by decide +kernel
theorem d_M_part4_56 : decode b_M_part4 56 = .ok (.iload_n 3, 1) := by decide +kernel
theorem d_M_part4_57 : decode b_M_part4 57 = .ok (.invokevirtual 50, 3) := by decide +kernel
theorem d_M_part4_60 : decode b_M_part4 60 = .ok (.goto 312, 3) := by decide +kernel
theorem d_M_part4_63 : decode b_M_part4 63 = .ok (.aload_n 0, 1) := by decide +kernel
theorem d_M_part4_64 : decode b_M_part4 64 = .ok (.getfield 13, 3) := by decide +kernel
theorem d_M_part4_67 : decode b_M_part4 67 = .ok (.iload 5, 2) := by decide +kernel
theorem d_M_part4_69 : decode b_M_part4 69 = .ok (.aload_n 0, 1) := by decide +kernel
theorem d_M_part4_70 : decode b_M_part4 70 = .ok (.sipush 1000, 3) := by decide +kernel
theorem d_M_part4_73 : decode b_M_part4 73 = .ok (.invokevirtual 42, 3) := by decide +kernel
theorem d_M_part4_76 : decode b_M_part4 76 = .ok (.iastore, 1) := by decide +kernel
theorem d_M_part4_77 : decode b_M_part4 77 = .ok (.aload_n 0, 1) := by decide +kernel
theorem d_M_part4_78 : decode b_M_part4 78 = .ok (.getfield 13, 3) := by decide +kernel
theorem d_M_part4_81 : decode b_M_part4 81 = .ok (.iload 5, 2) := by decide +kernel
theorem d_M_part4_83 : decode b_M_part4 83 = .ok (.iconst 1, 1) := by decide +kernel
theorem d_M_part4_84 : decode b_M_part4 84 = .ok (.iadd, 1) := by decide +kernel
theorem d_M_part4_85 : decode b_M_part4 85 = .ok (.iconst 1, 1) := by decide +kernel
theorem d_M_part4_86 : decode b_M_part4 86 = .ok (.aload_n 0, 1) := by decide +kernel
theorem d_M_part4_87 : decode b_M_part4 87 = .ok (.bipush 60, 2) := by decide +kernel
theorem d_M_part4_89 : decode b_M_part4 89 = .ok (.invokevirtual 42, 3) := by decide +kernel
theorem d_M_part4_92 : decode b_M_part4 92 = .ok (.iadd, 1) := by decide +kernel
theorem d_M_part4_93 : decode b_M_part4 93 = .ok (.iastore, 1) := by decide +kernel
theorem d_M_part4_94 : decode b_M_part4 94 = .ok (.aload_n 0, 1) := by decide +kernel
theorem d_M_part4_95 : decode b_M_part4 95 = .ok (.getfield 13, 3) := by decide +kernel
theorem d_M_part4_98 : decode b_M_part4 98 = .ok (.iload 5, 2) := by decide +kernel
theorem d_M_part4_100 : decode b_M_part4 100 = .ok (.iconst 2, 1) := by decide +kernel
theorem d_M_part4_101 : decode b_M_part4 101 = .ok (.iadd, 1) := by decide +kernel
theorem d_M_part4_102 : decode b_M_part4 102 = .ok (.iconst 1, 1) := by decide +kernel
theorem d_M_part4_103 : decode b_M_part4 103 = .ok (.aload_n 0, 1) := by decide +kernel
theorem d_M_part4_104 : decode b_M_part4 104 = .ok (.sipush 1500, 3) := by decide +kernel
theorem d_M_part4_107 : decode b_M_part4 107 = .ok (.aload_n 0, 1) := by decide +kernel
theorem d_M_part4_108 : decode b_M_part4 108 = .ok (.getfield 13, 3) := by decide +kernel
theorem d_M_part4_111 : decode b_M_part4 111 = .ok (.iload 5, 2) := by decide +kernel
theorem d_M_part4_113 : decode b_M_part4 113 = .ok (.iaload, 1) := by decide +kernel
theorem d_M_part4_114 : decode b_M_part4 114 = .ok (.isub, 1) := by decide +kernel
theorem d_M_part4_115 : decode b_M_part4 115 = .ok (.aload_n 0, 1) := by decide +kernel
theorem d_M_part4_116 : decode b_M_part4 116 = .ok (.getfield 13, 3) := by decide +kernel
theorem d_M_part4_119 : decode b_M_part4 119 = .ok (.iload 5, 2) := by decide +kernel
theorem d_M_part4_121 : decode b_M_part4 121 = .ok (.iconst 1, 1) := by decide +kernel
theorem d_M_part4_122 : decode b_M_part4 122 = .ok (.iadd, 1) := by decide +kernel
theorem d_M_part4_123 : decode b_M_part4 123 = .ok (.iaload, 1) := by decide +kernel
theorem d_M_part4_124 : decode b_M_part4 124 = .ok (.idiv, 1) := by decide +kernel
theorem d_M_part4_125 : decode b_M_part4 125 = .ok (.iconst 1, 1) := by decide +kernel
theorem d_M_part4_126 : decode b_M_part4 126 = .ok (.iadd, 1) := by decide +kernel
theorem d_M_part4_127 : decode b_M_part4 127 = .ok (.invokevirtual 42, 3) := by decide +kernel
theorem d_M_part4_130 : decode b_M_part4 130 = .ok (.iadd, 1) := by decide +kernel
theorem d_M_part4_131 : decode b_M_part4 131 = .ok (.iastore, 1) := by decide +kernel
theorem d_M_part4_132 : decode b_M_part4 132 = .ok (.goto 240, 3) := by decide +kernel
theorem d_M_part4_135 : decode b_M_part4 135 = .ok (.aload_n 0, 1) := by decide +kernel
theorem d_M_part4_136 : decode b_M_part4 136 = .ok (.getfield 13, 3) := by decide +kernel
theorem d_M_part4_139 : decode b_M_part4 139 = .ok (.iload 5, 2) := by decide +kernel
theorem d_M_part4_141 : decode b_M_part4 141 = .ok (.iconst 1, 1) := by decide +kernel
theorem d_M_part4_142 : decode b_M_part4 142 = .ok (.aload_n 0, 1) := by decide +kernel
theorem d_M_part4_143 : decode b_M_part4 143 = .ok (.bipush 9, 2) := by decide +kernel
theorem d_M_part4_145 : decode b_M_part4 145 = .ok (.invokevirtual 42, 3) := by decide +kernel
theorem d_M_part4_148 : decode b_M_part4 148 = .ok (.iadd, 1) := by decide +kernel
theorem d_M_part4_149 : decode b_M_part4 149 = .ok (.iastore, 1) := by decide +kernel
theorem d_M_part4_150 : decode b_M_part4 150 = .ok (.aload_n 0, 1) := by decide +kernel
theorem d_M_part4_151 : decode b_M_part4 151 = .ok (.getfield 13, 3) := by decide +kernel
theorem d_M_part4_154 : decode b_M_part4 154 = .ok (.iload 5, 2) := by decide +kernel
theorem d_M_part4_156 : decode b_M_part4 156 = .ok (.iconst 1, 1) := by decide +kernel
theorem d_M_part4_157 : decode b_M_part4 157 = .ok (.iadd, 1) := by decide +kernel
theorem d_M_part4_158 : decode b_M_part4 158 = .ok (.aload_n 0, 1) := by decide +kernel
theorem d_M_part4_159 : decode b_M_part4 159 = .ok (.sipush 1000, 3) := by decide +kernel
theorem d_M_part4_162 : decode b_M_part4 162 = .ok (.invokevirtual 42, 3) := by decide +kernel
theorem d_M_part4_165 : decode b_M_part4 165 = .ok (.iastore, 1) := by decide +kernel
theorem d_M_part4_166 : decode b_M_part4 166 = .ok (.aload_n 0, 1) := by decide +kernel
theorem d_M_part4_167 : decode b_M_part4 167 = .ok (.getfield 13, 3) := by decide +kernel
theorem d_M_part4_170 : decode b_M_part4 170 = .ok (.iload 5, 2) := by decide +kernel
theorem d_M_part4_172 : decode b_M_part4 172 = .ok (.iconst 2, 1) := by decide +kernel
theorem d_M_part4_173 : decode b_M_part4 173 = .ok (.iadd, 1) := by decide +kernel
theorem d_M_part4_174 : decode b_M_part4 174 = .ok (.aload_n 0, 1) := by decide +kernel
theorem d_M_part4_175 : decode b_M_part4 175 = .ok (.iconst 4, 1) := by decide +kernel
theorem d_M_part4_176 : decode b_M_part4 176 = .ok (.invokevirtual 42, 3) := by decide +kernel
theorem d_M_part4_179 : decode b_M_part4 179 = .ok (.ifCond .ne 13, 3) := by decide +kernel
theorem d_M_part4_182 : decode b_M_part4 182 = .ok (.iconst 1, 1) := by decide +kernel
theorem d_M_part4_183 : decode b_M_part4 183 = .ok (.aload_n 0, 1) := by decide +kernel
theorem d_M_part4_184 : decode b_M_part4 184 = .ok (.iconst 3, 1) := by decide +kernel
theorem d_M_part4_185 : decode b_M_part4 185 = .ok (.invokevirtual 42, 3) := by decide +kernel
theorem d_M_part4_188 : decode b_M_part4 188 = .ok (.iadd, 1) := by decide +kernel
theorem d_M_part4_189 : decode b_M_part4 189 = .ok (.goto 4, 3) := by decide +kernel
theorem d_M_part4_192 : decode b_M_part4 192 = .ok (.iconst 0, 1) := by decide +kernel
theorem d_M_part4_193 : decode b_M_part4 193 = .ok (.iastore, 1) := by decide +kernel
theorem d_M_part4_194 : decode b_M_part4 194 = .ok (.goto 178, 3) := by decide +kernel
theorem d_M_part4_197 : decode b_M_part4 197 = .ok (.aload_n 0, 1) := by decide +kernel
theorem d_M_part4_198 : decode b_M_part4 198 = .ok (.getfield 13, 3) := by decide +kernel
theorem d_M_part4_201 : decode b_M_part4 201 = .ok (.iload 5, 2) := by decide +kernel
theorem d_M_part4_203 : decode b_M_part4 203 = .ok (.aload_n 0, 1) := by decide +kernel
theorem d_M_part4_204 : decode b_M_part4 204 = .ok (.iconst 5, 1) := by decide +kernel
theorem d_M_part4_205 : decode b_M_part4 205 = .ok (.invokevirtual 42, 3) := by decide +kernel
theorem d_M_part4_208 : decode b_M_part4 208 = .ok (.iastore, 1) := by decide +kernel
theorem d_M_part4_209 : decode b_M_part4 209 = .ok (.aload_n 0, 1) := by decide +kernel
theorem d_M_part4_210 : decode b_M_part4 210 = .ok (.getfield 13, 3) := by decide +kernel
theorem d_M_part4_213 : decode b_M_part4 213 = .ok (.iload 5, 2) := by decide +kernel
theorem d_M_part4_215 : decode b_M_part4 215 = .ok (.iconst 1, 1) := by decide +kernel
theorem d_M_part4_216 : decode b_M_part4 216 = .ok (.iadd, 1) := by decide +kernel
theorem d_M_part4_217 : decode b_M_part4 217 = .ok (.iload_n 3, 1) := by decide +kernel
theorem d_M_part4_218 : decode b_M_part4 218 = .ok (.ifCond .le 19, 3) := by decide +kernel
theorem d_M_part4_221 : decode b_M_part4 221 = .ok (.aload_n 0, 1) := by decide +kernel
theorem d_M_part4_222 : decode b_M_part4 222 = .ok (.iconst 3, 1) := by decide +kernel
theorem d_M_part4_223 : decode b_M_part4 223 = .ok (.invokevirtual 42, 3) := by decide +kernel
theorem d_M_part4_226 : decode b_M_part4 226 = .ok (.ifCond .ne 11, 3) := by decide +kernel
theorem d_M_part4_229 : decode b_M_part4 229 = .ok (.aload_n 0, 1) := by decide +kernel
theorem d_M_part4_230 : decode b_M_part4 230 = .ok (.iload_n 3, 1) := by decide +kernel
theorem d_M_part4_231 : decode b_M_part4 231 = .ok (.invokevirtual 42, 3) := by decide +kernel
theorem d_M_part4_234 : decode b_M_part4 234 = .ok (.goto 4, 3) := by decide +kernel
theorem d_M_part4_237 : decode b_M_part4 237 = .ok (.iconst (-1), 1) := by decide +kernel
theorem d_M_part4_238 : decode b_M_part4 238 = .ok (.iastore, 1) := by decide +kernel
theorem d_M_part4_239 : decode b_M_part4 239 = .ok (.aload_n 0, 1) := by decide +kernel
theorem d_M_part4_240 : decode b_M_part4 240 = .ok (.getfield 13, 3) := by decide +kernel
theorem d_M_part4_243 : decode b_M_part4 243 = .ok (.iload 5, 2) := by decide +kernel
theorem d_M_part4_245 : decode b_M_part4 245 = .ok (.iconst 1, 1) := by decide +kernel
theorem d_M_part4_246 : decode b_M_part4 246 = .ok (.iadd, 1) := by decide +kernel
theorem d_M_part4_247 : decode b_M_part4 247 = .ok (.iaload, 1) := by decide +kernel
theorem d_M_part4_248 : decode b_M_part4 248 = .ok (.ifCond .lt 36, 3) := by decide +kernel
theorem d_M_part4_251 : decode b_M_part4 251 = .ok (.aload_n 0, 1) := by decide +kernel
theorem d_M_part4_252 : decode b_M_part4 252 = .ok (.getfield 13, 3) := by decide +kernel
theorem d_M_part4_255 : decode b_M_part4 255 = .ok (.iload_n 1, 1) := by decide +kernel
theorem d_M_part4_256 : decode b_M_part4 256 = .ok (.aload_n 0, 1) := by decide +kernel
theorem d_M_part4_257 : decode b_M_part4 257 = .ok (.getfield 13, 3) := by decide +kernel
theorem d_M_part4_260 : decode b_M_part4 260 = .ok (.iload 5, 2) := by decide +kernel
theorem d_M_part4_262 : decode b_M_part4 262 = .ok (.iconst 1, 1) := by decide +kernel
theorem d_M_part4_263 : decode b_M_part4 263 = .ok (.iadd, 1) := by decide +kernel
theorem d_M_part4_264 : decode b_M_part4 264 = .ok (.iaload, 1) := by decide +kernel
theorem d_M_part4_265 : decode b_M_part4 265 = .ok (.invokestatic 38, 3) := by decide +kernel
theorem d_M_part4_268 : decode b_M_part4 268 = .ok (.iconst 1, 1) := by decide +kernel
theorem d_M_part4_269 : decode b_M_part4 269 = .ok (.iadd, 1) := by decide +kernel
theorem d_M_part4_270 : decode b_M_part4 270 = .ok (.iaload, 1) := by decide +kernel
theorem d_M_part4_271 : decode b_M_part4 271 = .ok (.ifCond .lt 13, 3) := by decide +kernel
theorem d_M_part4_274 : decode b_M_part4 274 = .ok (.aload_n 0, 1) := by decide +kernel
theorem d_M_part4_275 : decode b_M_part4 275 = .ok (.getfield 13, 3) := by decide +kernel
theorem d_M_part4_278 : decode b_M_part4 278 = .ok (.iload 5, 2) := by decide +kernel
theorem d_M_part4_280 : decode b_M_part4 280 = .ok (.iconst 1, 1) := by decide +kernel
theorem d_M_part4_281 : decode b_M_part4 281 = .ok (.iadd, 1) := by decide +kernel
theorem d_M_part4_282 : decode b_M_part4 282 = .ok (.iconst (-1), 1) := by decide +kernel
theorem d_M_part4_283 : decode b_M_part4 283 = .ok (.iastore, 1) := by decide +kernel
theorem d_M_part4_284 : decode b_M_part4 284 = .ok (.aload_n 0, 1) := by decide +kernel
theorem d_M_part4_285 : decode b_M_part4 285 = .ok (.getfield 13, 3) := by decide +kernel
theorem d_M_part4_288 : decode b_M_part4 288 = .ok (.iload 5, 2) := by decide +kernel
theorem d_M_part4_290 : decode b_M_part4 290 = .ok (.iconst 2, 1) := by decide +kernel
theorem d_M_part4_291 : decode b_M_part4 291 = .ok (.iadd, 1) := by decide +kernel
theorem d_M_part4_292 : decode b_M_part4 292 = .ok (.bipush 100, 2) := by decide +kernel
theorem d_M_part4_294 : decode b_M_part4 294 = .ok (.bipush 10, 2) := by decide +kernel
theorem d_M_part4_296 : decode b_M_part4 296 = .ok (.iload_n 3, 1) := by decide +kernel
theorem d_M_part4_297 : decode b_M_part4 297 = .ok (.imul, 1) := by decide +kernel
theorem d_M_part4_298 : decode b_M_part4 298 = .ok (.iadd, 1) := by decide +kernel
theorem d_M_part4_299 : decode b_M_part4 299 = .ok (.aload_n 0, 1) := by decide +kernel
theorem d_M_part4_300 : decode b_M_part4 300 = .ok (.bipush 10, 2) := by decide +kernel
theorem d_M_part4_302 : decode b_M_part4 302 = .ok (.invokevirtual 42, 3) := by decide +kernel
theorem d_M_part4_305 : decode b_M_part4 305 = .ok (.iadd, 1) := by decide +kernel
theorem d_M_part4_306 : decode b_M_part4 306 = .ok (.iastore, 1) := by decide +kernel
theorem d_M_part4_307 : decode b_M_part4 307 = .ok (.goto 65, 3) := by decide +kernel
theorem d_M_part4_310 : decode b_M_part4 310 = .ok (.aload_n 0, 1) := by decide +kernel
theorem d_M_part4_311 : decode b_M_part4 311 = .ok (.getfield 13, 3) := by decide +kernel
theorem d_M_part4_314 : decode b_M_part4 314 = .ok (.iload 5, 2) := by decide +kernel
theorem d_M_part4_316 : decode b_M_part4 316 = .ok (.aload_n 0, 1) := by decide +kernel
theorem d_M_part4_317 : decode b_M_part4 317 = .ok (.bipush 6, 2) := by decide +kernel
theorem d_M_part4_319 : decode b_M_part4 319 = .ok (.invokevirtual 42, 3) := by decide +kernel
theorem d_M_part4_322 : decode b_M_part4 322 = .ok (.iastore, 1) := by decide +kernel
theorem d_M_part4_323 : decode b_M_part4 323 = .ok (.aload_n 0, 1) := by decide +kernel
theorem d_M_part4_324 : decode b_M_part4 324 = .ok (.getfield 13, 3) := by decide +kernel
theorem d_M_part4_327 : decode b_M_part4 327 = .ok (.iload 5, 2) := by decide +kernel
theorem d_M_part4_329 : decode b_M_part4 329 = .ok (.iconst 1, 1) := by decide +kernel
theorem d_M_part4_330 : decode b_M_part4 330 = .ok (.iadd, 1) := by decide +kernel
theorem d_M_part4_331 : decode b_M_part4 331 = .ok (.aload_n 0, 1) := by decide +kernel
theorem d_M_part4_332 : decode b_M_part4 332 = .ok (.iload 4, 2) := by decide +kernel
theorem d_M_part4_334 : decode b_M_part4 334 = .ok (.iconst 1, 1) := by decide +kernel
theorem d_M_part4_335 : decode b_M_part4 335 = .ok (.iadd, 1) := by decide +kernel
theorem d_M_part4_336 : decode b_M_part4 336 = .ok (.invokevirtual 42, 3) := by decide +kernel
theorem d_M_part4_339 : decode b_M_part4 339 = .ok (.iastore, 1) := by decide +kernel
theorem d_M_part4_340 : decode b_M_part4 340 = .ok (.aload_n 0, 1) := by decide +kernel
theorem d_M_part4_341 : decode b_M_part4 341 = .ok (.getfield 13, 3) := by decide +kernel
theorem d_M_part4_344 : decode b_M_part4 344 = .ok (.iload 5, 2) := by decide +kernel
theorem d_M_part4_346 : decode b_M_part4 346 = .ok (.iconst 2, 1) := by decide +kernel
theorem d_M_part4_347 : decode b_M_part4 347 = .ok (.iadd, 1) := by decide +kernel
theorem d_M_part4_348 : decode b_M_part4 348 = .ok (.iload_n 3, 1) := by decide +kernel
theorem d_M_part4_349 : decode b_M_part4 349 = .ok (.ifCond .ne 7, 3) := by decide +kernel
theorem d_M_part4_352 : decode b_M_part4 352 = .ok (.iconst 0, 1) := by decide +kernel
theorem d_M_part4_353 : decode b_M_part4 353 = .ok (.goto 12, 3) := by decide +kernel
theorem d_M_part4_356 : decode b_M_part4 356 = .ok (.aload_n 0, 1) := by decide +kernel
theorem d_M_part4_357 : decode b_M_part4 357 = .ok (.getfield 13, 3) := by decide +kernel
theorem d_M_part4_360 : decode b_M_part4 360 = .ok (.iload 5, 2) := by decide +kernel
theorem d_M_part4_362 : decode b_M_part4 362 = .ok (.iconst 1, 1) := by decide +kernel
theorem d_M_part4_363 : decode b_M_part4 363 = .ok (.isub, 1) := by decide +kernel
theorem d_M_part4_364 : decode b_M_part4 364 = .ok (.iaload, 1) := by decide +kernel
theorem d_M_part4_365 : decode b_M_part4 365 = .ok (.aload_n 0, 1) := by decide +kernel
theorem d_M_part4_366 : decode b_M_part4 366 = .ok (.iconst 5, 1) := by decide +kernel
theorem d_M_part4_367 : decode b_M_part4 367 = .ok (.invokevirtual 42, 3) := by decide +kernel
theorem d_M_part4_370 : decode b_M_part4 370 = .ok (.iadd, 1) := by decide +kernel
theorem d_M_part4_371 : decode b_M_part4 371 = .ok (.iastore, 1) := by decide +kernel
theorem d_M_part4_372 : decode b_M_part4 372 = .ok (.return_, 1) := by decide +kernel
theorem d_M_at_0 : decode b_M_at 0 = .ok (.bipush 63, 2) := by decide +kernel
theorem d_M_at_2 : decode b_M_at 2 = .ok (.iload_n 0, 1) := by decide +kernel
theorem d_M_at_3 : decode b_M_at 3 = .ok (.imul, 1) := by decide +kernel
theorem d_M_at_4 : decode b_M_at 4 = .ok (.iconst 3, 1) := by decide +kernel
theorem d_M_at_5 : decode b_M_at 5 = .ok (.iload_n 1, 1) := by decide +kernel
theorem d_M_at_6 : decode b_M_at 6 = .ok (.imul, 1) := by decide +kernel
theorem d_M_at_7 : decode b_M_at 7 = .ok (.iadd, 1) := by decide +kernel
theorem d_M_at_8 : decode b_M_at 8 = .ok (.ireturn, 1) := by decide +kernel
theorem d_M_record_0 : decode b_M_record 0 = .ok (.iload_n 1, 1) := by decide +kernel
theorem d_M_record_1 : decode b_M_record 1 = .ok (.iload_n 2, 1) := by decide +kernel
theorem d_M_record_2 : decode b_M_record 2 = .ok (.invokestatic 38, 3) := by decide +kernel
theorem d_M_record_5 : decode b_M_record 5 = .ok (.istore_n 3, 1) := by decide +kernel
theorem d_M_record_6 : decode b_M_record 6 = .ok (.iload_n 2, 1) := by decide +kernel
theorem d_M_record_7 : decode b_M_record 7 = .ok (.ifCond .le 19, 3) := by decide +kernel
theorem d_M_record_10 : decode b_M_record 10 = .ok (.aload_n 0, 1) := by decide +kernel
theorem d_M_record_11 : decode b_M_record 11 = .ok (.iconst 5, 1) := by decide +kernel
theorem d_M_record_12 : decode b_M_record 12 = .ok (.invokevirtual 42, 3) := by decide +kernel
theorem d_M_record_15 : decode b_M_record 15 = .ok (.ifCond .ne 11, 3) := by decide +kernel
theorem d_M_record_18 : decode b_M_record 18 = .ok (.aload_n 0, 1) := by decide +kernel
theorem d_M_record_19 : decode b_M_record 19 = .ok (.iload_n 2, 1) := by decide +kernel
theorem d_M_record_20 : decode b_M_record 20 = .ok (.invokevirtual 42, 3) := by decide +kernel
theorem d_M_record_23 : decode b_M_record 23 = .ok (.goto 4, 3) := by decide +kernel
theorem d_M_record_26 : decode b_M_record 26 = .ok (.iconst (-1), 1) := by decide +kernel
theorem d_M_record_27 : decode b_M_record 27 = .ok (.istore 4, 2) := by decide +kernel
theorem d_M_record_29 : decode b_M_record 29 = .ok (.aload_n 0, 1) := by decide +kernel
theorem d_M_record_30 : decode b_M_record 30 = .ok (.getfield 13, 3) := by decide +kernel
theorem d_M_record_33 : decode b_M_record 33 = .ok (.iload_n 3, 1) := by decide +kernel
theorem d_M_record_34 : decode b_M_record 34 = .ok (.iconst 2, 1) := by decide +kernel
theorem d_M_record_35 : decode b_M_record 35 = .ok (.iadd, 1) := by decide +kernel
theorem d_M_record_36 : decode b_M_record 36 = .ok (.iload 4, 2) := by decide +kernel
theorem d_M_record_38 : decode b_M_record 38 = .ok (.iastore, 1) := by decide +kernel
theorem d_M_record_39 : decode b_M_record 39 = .ok (.iload 4, 2) := by decide +kernel
theorem d_M_record_41 : decode b_M_record 41 = .ok (.ifCond .lt 93, 3) := by decide +kernel
theorem d_M_record_44 : decode b_M_record 44 = .ok (.aload_n 0, 1) := by decide +kernel
theorem d_M_record_45 : decode b_M_record 45 = .ok (.getfield 13, 3) := by decide +kernel
theorem d_M_record_48 : decode b_M_record 48 = .ok (.iload_n 3, 1) := by decide +kernel
theorem d_M_record_49 : decode b_M_record 49 = .ok (.aload_n 0, 1) := by decide +kernel
theorem d_M_record_50 : decode b_M_record 50 = .ok (.getfield 13, 3) := by decide +kernel
theorem d_M_record_53 : decode b_M_record 53 = .ok (.iload_n 1, 1) := by decide +kernel
theorem d_M_record_54 : decode b_M_record 54 = .ok (.iload 4, 2) := by decide +kernel
theorem d_M_record_56 : decode b_M_record 56 = .ok (.invokestatic 38, 3) := by decide +kernel
theorem d_M_record_59 : decode b_M_record 59 = .ok (.iaload, 1) := by decide +kernel
theorem d_M_record_60 : decode b_M_record 60 = .ok (.iastore, 1) := by decide +kernel
theorem d_M_record_61 : decode b_M_record 61 = .ok (.aload_n 0, 1) := by decide +kernel
theorem d_M_record_62 : decode b_M_record 62 = .ok (.getfield 13, 3) := by decide +kernel
theorem d_M_record_65 : decode b_M_record 65 = .ok (.iload_n 3, 1) := by decide +kernel
theorem d_M_record_66 : decode b_M_record 66 = .ok (.iconst 1, 1) := by decide +kernel
theorem d_M_record_67 : decode b_M_record 67 = .ok (.iadd, 1) := by decide +kernel
theorem d_M_record_68 : decode b_M_record 68 = .ok (.aload_n 0, 1) := by decide +kernel
theorem d_M_record_69 : decode b_M_record 69 = .ok (.getfield 13, 3) := by decide +kernel
theorem d_M_record_72 : decode b_M_record 72 = .ok (.iload_n 1, 1) := by decide +kernel
theorem d_M_record_73 : decode b_M_record 73 = .ok (.iload 4, 2) := by decide +kernel
theorem d_M_record_75 : decode b_M_record 75 = .ok (.invokestatic 38, 3) := by decide +kernel
theorem d_M_record_78 : decode b_M_record 78 = .ok (.iconst 1, 1) := by decide +kernel
theorem d_M_record_79 : decode b_M_record 79 = .ok (.iadd, 1) := by decide +kernel
theorem d_M_record_80 : decode b_M_record 80 = .ok (.iaload, 1) := by decide +kernel
theorem d_M_record_81 : decode b_M_record 81 = .ok (.iastore, 1) := by decide +kernel
theorem d_M_record_82 : decode b_M_record 82 = .ok (.iconst 0, 1) := by decide +kernel
theorem d_M_record_83 : decode b_M_record 83 = .ok (.istore 5, 2) := by decide +kernel
theorem d_M_record_85 : decode b_M_record 85 = .ok (.iload 5, 2) := by decide +kernel
theorem d_M_record_87 : decode b_M_record 87 = .ok (.bipush 6, 2) := by decide +kernel
theorem d_M_record_89 : decode b_M_record 89 = .ok (.if_icmp .ge 44, 3) := by decide +kernel
theorem d_M_record_92 : decode b_M_record 92 = .ok (.aload_n 0, 1) := by decide +kernel
theorem d_M_record_93 : decode b_M_record 93 = .ok (.getfield 17, 3) := by decide +kernel
theorem d_M_record_96 : decode b_M_record 96 = .ok (.bipush 126, 2) := by decide +kernel
theorem d_M_record_98 : decode b_M_record 98 = .ok (.iload_n 1, 1) := by decide +kernel
theorem d_M_record_99 : decode b_M_record 99 = .ok (.imul, 1) := by decide +kernel
theorem d_M_record_100 : decode b_M_record 100 = .ok (.bipush 6, 2) := by decide +kernel
theorem d_M_record_102 : decode b_M_record 102 = .ok (.iload_n 2, 1) := by decide +kernel
theorem d_M_record_103 : decode b_M_record 103 = .ok (.imul, 1) := by decide +kernel
theorem d_M_record_104 : decode b_M_record 104 = .ok (.iadd, 1) := by decide +kernel
theorem d_M_record_105 : decode b_M_record 105 = .ok (.iload 5, 2) := by decide +kernel
theorem d_M_record_107 : decode b_M_record 107 = .ok (.iadd, 1) := by decide +kernel
theorem d_M_record_108 : decode b_M_record 108 = .ok (.aload_n 0, 1) := by decide +kernel
theorem d_M_record_109 : decode b_M_record 109 = .ok (.getfield 17, 3) := by decide +kernel
theorem d_M_record_112 : decode b_M_record 112 = .ok (.bipush 126, 2) := by decide +kernel
theorem d_M_record_114 : decode b_M_record 114 = .ok (.iload_n 1, 1) := by decide +kernel
theorem d_M_record_115 : decode b_M_record 115 = .ok (.imul, 1) := by decide +kernel
theorem d_M_record_116 : decode b_M_record 116 = .ok (.bipush 6, 2) := by decide +kernel
theorem d_M_record_118 : decode b_M_record 118 = .ok (.iload 4, 2) := by decide +kernel
theorem d_M_record_120 : decode b_M_record 120 = .ok (.imul, 1) := by decide +kernel
theorem d_M_record_121 : decode b_M_record 121 = .ok (.iadd, 1) := by decide +kernel
theorem d_M_record_122 : decode b_M_record 122 = .ok (.iload 5, 2) := by decide +kernel
theorem d_M_record_124 : decode b_M_record 124 = .ok (.iadd, 1) := by decide +kernel
theorem d_M_record_125 : decode b_M_record 125 = .ok (.baload, 1) := by decide +kernel
theorem d_M_record_126 : decode b_M_record 126 = .ok (.bastore, 1) := by decide +kernel
theorem d_M_record_127 : decode b_M_record 127 = .ok (.iinc 5 1, 3) := by decide +kernel
theorem d_M_record_130 : decode b_M_record 130 = .ok (.goto (-45), 3) := by decide +kernel
theorem d_M_record_133 : decode b_M_record 133 = .ok (.return_, 1) := by decide +kernel
theorem d_M_record_134 : decode b_M_record 134 = .ok (.aload_n 0, 1) := by decide +kernel
theorem d_M_record_135 : decode b_M_record 135 = .ok (.getfield 13, 3) := by decide +kernel
theorem d_M_record_138 : decode b_M_record 138 = .ok (.iload_n 3, 1) := by decide +kernel
theorem d_M_record_139 : decode b_M_record 139 = .ok (.aload_n 0, 1) := by decide +kernel
theorem d_M_record_140 : decode b_M_record 140 = .ok (.bipush 7, 2) := by decide +kernel
theorem d_M_record_142 : decode b_M_record 142 = .ok (.invokevirtual 42, 3) := by decide +kernel
theorem d_M_record_145 : decode b_M_record 145 = .ok (.iastore, 1) := by decide +kernel
theorem d_M_record_146 : decode b_M_record 146 = .ok (.aload_n 0, 1) := by decide +kernel
theorem d_M_record_147 : decode b_M_record 147 = .ok (.getfield 13, 3) := by decide +kernel
theorem d_M_record_150 : decode b_M_record 150 = .ok (.iload_n 3, 1) := by decide +kernel
theorem d_M_record_151 : decode b_M_record 151 = .ok (.iconst 1, 1) := by decide +kernel
theorem d_M_record_152 : decode b_M_record 152 = .ok (.iadd, 1) := by decide +kernel
theorem d_M_record_153 : decode b_M_record 153 = .ok (.aload_n 0, 1) := by decide +kernel
theorem d_M_record_154 : decode b_M_record 154 = .ok (.bipush 8, 2) := by decide +kernel
theorem d_M_record_156 : decode b_M_record 156 = .ok (.invokevirtual 42, 3) := by decide +kernel
theorem d_M_record_159 : decode b_M_record 159 = .ok (.ifCond .ne 7, 3) := by decide +kernel
theorem d_M_record_162 : decode b_M_record 162 = .ok (.iconst 0, 1) := by decide +kernel
theorem d_M_record_163 : decode b_M_record 163 = .ok (.goto 13, 3) := by decide +kernel
theorem d_M_record_166 : decode b_M_record 166 = .ok (.sipush 1900, 3) := by decide +kernel
theorem d_M_record_169 : decode b_M_record 169 = .ok (.aload_n 0, 1) := by decide +kernel
theorem d_M_record_170 : decode b_M_record 170 = .ok (.bipush 120, 2) := by decide +kernel
theorem d_M_record_172 : decode b_M_record 172 = .ok (.invokevirtual 42, 3) := by decide +kernel
theorem d_M_record_175 : decode b_M_record 175 = .ok (.iadd, 1) := by decide +kernel
theorem d_M_record_176 : decode b_M_record 176 = .ok (.iastore, 1) := by decide +kernel
theorem d_M_record_177 : decode b_M_record 177 = .ok (.iconst 0, 1) := by decide +kernel
theorem d_M_record_178 : decode b_M_record 178 = .ok (.istore 5, 2) := by decide +kernel
theorem d_M_record_180 : decode b_M_record 180 = .ok (.iload 5, 2) := by decide +kernel
theorem d_M_record_182 : decode b_M_record 182 = .ok (.aload_n 0, 1) := by decide +kernel
theorem d_M_record_183 : decode b_M_record 183 = .ok (.getfield 13, 3) := by decide +kernel
theorem d_M_record_186 : decode b_M_record 186 = .ok (.iload_n 3, 1) := by decide +kernel
theorem d_M_record_187 : decode b_M_record 187 = .ok (.iaload, 1) := by decide +kernel
theorem d_M_record_188 : decode b_M_record 188 = .ok (.if_icmp .ge 36, 3) := by decide +kernel
theorem d_M_record_191 : decode b_M_record 191 = .ok (.aload_n 0, 1) := by decide +kernel
theorem d_M_record_192 : decode b_M_record 192 = .ok (.getfield 17, 3) := by decide +kernel
theorem d_M_record_195 : decode b_M_record 195 = .ok (.bipush 126, 2) := by decide +kernel
theorem d_M_record_197 : decode b_M_record 197 = .ok (.iload_n 1, 1) := by decide +kernel
theorem d_M_record_198 : decode b_M_record 198 = .ok (.imul, 1) := by decide +kernel
theorem d_M_record_199 : decode b_M_record 199 = .ok (.bipush 6, 2) := by decide +kernel
theorem d_M_record_201 : decode b_M_record 201 = .ok (.iload_n 2, 1) := by decide +kernel
theorem d_M_record_202 : decode b_M_record 202 = .ok (.imul, 1) := by decide +kernel
theorem d_M_record_203 : decode b_M_record 203 = .ok (.iadd, 1) := by decide +kernel
theorem d_M_record_204 : decode b_M_record 204 = .ok (.iload 5, 2) := by decide +kernel
theorem d_M_record_206 : decode b_M_record 206 = .ok (.iadd, 1) := by decide +kernel
theorem d_M_record_207 : decode b_M_record 207 = .ok (.bipush 97, 2) := by decide +kernel
theorem d_M_record_209 : decode b_M_record 209 = .ok (.aload_n 0, 1) := by decide +kernel
theorem d_M_record_210 : decode b_M_record 210 = .ok (.bipush 26, 2) := by decide +kernel
theorem d_M_record_212 : decode b_M_record 212 = .ok (.invokevirtual 42, 3) := by decide +kernel
theorem d_M_record_215 : decode b_M_record 215 = .ok (.iadd, 1) := by decide +kernel
theorem d_M_record_216 : decode b_M_record 216 = .ok (.i2b, 1) := by decide +kernel
theorem d_M_record_217 : decode b_M_record 217 = .ok (.bastore, 1) := by decide +kernel
theorem d_M_record_218 : decode b_M_record 218 = .ok (.iinc 5 1, 3) := by decide +kernel
theorem d_M_record_221 : decode b_M_record 221 = .ok (.goto (-41), 3) := by decide +kernel
theorem d_M_record_224 : decode b_M_record 224 = .ok (.return_, 1) := by decide +kernel
theorem d_M_next_0 : decode b_M_next 0 = .ok (.aload_n 0, 1) := by decide +kernel
theorem d_M_next_1 : decode b_M_next 1 = .ok (.aload_n 0, 1) := by decide +kernel
theorem d_M_next_2 : decode b_M_next 2 = .ok (.getfield 31, 3) := by decide +kernel
theorem d_M_next_5 : decode b_M_next 5 = .ok (.ldc2_w 34, 3) := by decide +kernel
theorem d_M_next_8 : decode b_M_next 8 = .ok (.lmul, 1) := by decide +kernel
theorem d_M_next_9 : decode b_M_next 9 = .ok (.ldc2_w 36, 3) := by decide +kernel
theorem d_M_next_12 : decode b_M_next 12 = .ok (.ladd, 1) := by decide +kernel
theorem d_M_next_13 : decode b_M_next 13 = .ok (.putfield 31, 3) := by decide +kernel
theorem d_M_next_16 : decode b_M_next 16 = .ok (.aload_n 0, 1) := by decide +kernel
theorem d_M_next_17 : decode b_M_next 17 = .ok (.getfield 31, 3) := by decide +kernel
theorem d_M_next_20 : decode b_M_next 20 = .ok (.bipush 33, 2) := by decide +kernel
theorem d_M_next_22 : decode b_M_next 22 = .ok (.lushr, 1) := by decide +kernel
theorem d_M_next_23 : decode b_M_next 23 = .ok (.iload_n 1, 1) := by decide +kernel
theorem d_M_next_24 : decode b_M_next 24 = .ok (.i2l, 1) := by decide +kernel
theorem d_M_next_25 : decode b_M_next 25 = .ok (.lrem, 1) := by decide +kernel
theorem d_M_next_26 : decode b_M_next 26 = .ok (.l2i, 1) := by decide +kernel
theorem d_M_next_27 : decode b_M_next 27 = .ok (.ireturn, 1) := by decide +kernel
theorem d_M_file_0 : decode b_M_file 0 = .ok (.iload_n 2, 1) := by decide +kernel
theorem d_M_file_1 : decode b_M_file 1 = .ok (.iconst 2, 1) := by decide +kernel
theorem d_M_file_2 : decode b_M_file 2 = .ok (.irem, 1) := by decide +kernel
theorem d_M_file_3 : decode b_M_file 3 = .ok (.ifCond .ne 13, 3) := by decide +kernel
theorem d_M_file_6 : decode b_M_file 6 = .ok (.iconst 1, 1) := by decide +kernel
theorem d_M_file_7 : decode b_M_file 7 = .ok (.aload_n 0, 1) := by decide +kernel
theorem d_M_file_8 : decode b_M_file 8 = .ok (.iconst 5, 1) := by decide +kernel
theorem d_M_file_9 : decode b_M_file 9 = .ok (.invokevirtual 42, 3) := by decide +kernel
theorem d_M_file_12 : decode b_M_file 12 = .ok (.iadd, 1) := by decide +kernel
theorem d_M_file_13 : decode b_M_file 13 = .ok (.goto 10, 3) := by decide +kernel
theorem d_M_file_16 : decode b_M_file 16 = .ok (.iconst 2, 1) := by decide +kernel
theorem d_M_file_17 : decode b_M_file 17 = .ok (.aload_n 0, 1) := by decide +kernel
theorem d_M_file_18 : decode b_M_file 18 = .ok (.iconst 4, 1) := by decide +kernel
theorem d_M_file_19 : decode b_M_file 19 = .ok (.invokevirtual 42, 3) := by decide +kernel
theorem d_M_file_22 : decode b_M_file 22 = .ok (.iadd, 1) := by decide +kernel
theorem d_M_file_23 : decode b_M_file 23 = .ok (.istore_n 3, 1) := by decide +kernel
theorem d_M_file_24 : decode b_M_file 24 = .ok (.aload_n 0, 1) := by decide +kernel
theorem d_M_file_25 : decode b_M_file 25 = .ok (.iconst 3, 1) := by decide +kernel
theorem d_M_file_26 : decode b_M_file 26 = .ok (.invokevirtual 42, 3) := by decide +kernel
theorem d_M_file_29 : decode b_M_file 29 = .ok (.istore 4, 2) := by decide +kernel
theorem d_M_file_31 : decode b_M_file 31 = .ok (.iconst 0, 1) := by decide +kernel
theorem d_M_file_32 : decode b_M_file 32 = .ok (.istore 5, 2) := by decide +kernel
theorem d_M_file_34 : decode b_M_file 34 = .ok (.iconst 1, 1) := by decide +kernel
theorem d_M_file_35 : decode b_M_file 35 = .ok (.istore 6, 2) := by decide +kernel
theorem d_M_file_37 : decode b_M_file 37 = .ok (.iconst 0, 1) := by decide +kernel
theorem d_M_file_38 : decode b_M_file 38 = .ok (.istore 7, 2) := by decide +kernel
theorem d_M_file_40 : decode b_M_file 40 = .ok (.iload 7, 2) := by decide +kernel
theorem d_M_file_42 : decode b_M_file 42 = .ok (.iload_n 3, 1) := by decide +kernel
theorem d_M_file_43 : decode b_M_file 43 = .ok (.if_icmp .ge 62, 3) := by decide +kernel
theorem d_M_file_46 : decode b_M_file 46 = .ok (.iload_n 2, 1) := by decide +kernel
theorem d_M_file_47 : decode b_M_file 47 = .ok (.iconst 2, 1) := by decide +kernel
theorem d_M_file_48 : decode b_M_file 48 = .ok (.irem, 1) := by decide +kernel
theorem d_M_file_49 : decode b_M_file 49 = .ok (.iconst 1, 1) := by decide +kernel
theorem d_M_file_50 : decode b_M_file 50 = .ok (.if_icmp .ne 13, 3) := by decide +kernel
theorem d_M_file_53 : decode b_M_file 53 = .ok (.iload 4, 2) := by decide +kernel
theorem d_M_file_55 : decode b_M_file 55 = .ok (.iload 7, 2) := by decide +kernel
theorem d_M_file_57 : decode b_M_file 57 = .ok (.iadd, 1) := by decide +kernel
theorem d_M_file_58 : decode b_M_file 58 = .ok (.iconst 3, 1) := by decide +kernel
theorem d_M_file_59 : decode b_M_file 59 = .ok (.irem, 1) := by decide +kernel
theorem d_M_file_60 : decode b_M_file 60 = .ok (.goto 21, 3) := by decide +kernel
theorem d_M_file_63 : decode b_M_file 63 = .ok (.iload 7, 2) := by decide +kernel
theorem d_M_file_65 : decode b_M_file 65 = .ok (.iload_n 3, 1) := by decide +kernel
theorem d_M_file_66 : decode b_M_file 66 = .ok (.iconst 2, 1) := by decide +kernel
theorem d_M_file_67 : decode b_M_file 67 = .ok (.idiv, 1) := by decide +kernel
theorem d_M_file_68 : decode b_M_file 68 = .ok (.if_icmp .gt 8, 3) := by decide +kernel
theorem d_M_file_71 : decode b_M_file 71 = .ok (.iload 4, 2) := by decide +kernel
theorem d_M_file_73 : decode b_M_file 73 = .ok (.goto 8, 3) := by decide +kernel
theorem d_M_file_76 : decode b_M_file 76 = .ok (.aload_n 0, 1) := by decide +kernel
theorem d_M_file_77 : decode b_M_file 77 = .ok (.iconst 3, 1) := by decide +kernel
theorem d_M_file_78 : decode b_M_file 78 = .ok (.invokevirtual 42, 3) := by decide +kernel
theorem d_M_file_81 : decode b_M_file 81 = .ok (.istore 8, 2) := by decide +kernel
theorem d_M_file_83 : decode b_M_file 83 = .ok (.iload 5, 2) := by decide +kernel
theorem d_M_file_85 : decode b_M_file 85 = .ok (.iload 8, 2) := by decide +kernel
theorem d_M_file_87 : decode b_M_file 87 = .ok (.iload 6, 2) := by decide +kernel
theorem d_M_file_89 : decode b_M_file 89 = .ok (.imul, 1) := by decide +kernel
theorem d_M_file_90 : decode b_M_file 90 = .ok (.iadd, 1) := by decide +kernel
theorem d_M_file_91 : decode b_M_file 91 = .ok (.istore 5, 2) := by decide +kernel
theorem d_M_file_93 : decode b_M_file 93 = .ok (.iconst 4, 1) := by decide +kernel
theorem d_M_file_94 : decode b_M_file 94 = .ok (.iload 6, 2) := by decide +kernel
theorem d_M_file_96 : decode b_M_file 96 = .ok (.imul, 1) := by decide +kernel
theorem d_M_file_97 : decode b_M_file 97 = .ok (.istore 6, 2) := by decide +kernel
theorem d_M_file_99 : decode b_M_file 99 = .ok (.iinc 7 1, 3) := by decide +kernel
theorem d_M_file_102 : decode b_M_file 102 = .ok (.goto (-62), 3) := by decide +kernel
theorem d_M_file_105 : decode b_M_file 105 = .ok (.aload_n 0, 1) := by decide +kernel
theorem d_M_file_106 : decode b_M_file 106 = .ok (.getfield 13, 3) := by decide +kernel
theorem d_M_file_109 : decode b_M_file 109 = .ok (.iload_n 1, 1) := by decide +kernel
theorem d_M_file_110 : decode b_M_file 110 = .ok (.iload_n 3, 1) := by decide +kernel
theorem d_M_file_111 : decode b_M_file 111 = .ok (.iastore, 1) := by decide +kernel
theorem d_M_file_112 : decode b_M_file 112 = .ok (.aload_n 0, 1) := by decide +kernel
theorem d_M_file_113 : decode b_M_file 113 = .ok (.getfield 13, 3) := by decide +kernel
theorem d_M_file_116 : decode b_M_file 116 = .ok (.iload_n 1, 1) := by decide +kernel
theorem d_M_file_117 : decode b_M_file 117 = .ok (.iconst 1, 1) := by decide +kernel
theorem d_M_file_118 : decode b_M_file 118 = .ok (.iadd, 1) := by decide +kernel
theorem d_M_file_119 : decode b_M_file 119 = .ok (.iload 5, 2) := by decide +kernel
theorem d_M_file_121 : decode b_M_file 121 = .ok (.iastore, 1) := by decide +kernel
theorem d_M_file_122 : decode b_M_file 122 = .ok (.aload_n 0, 1) := by decide +kernel
theorem d_M_file_123 : decode b_M_file 123 = .ok (.getfield 13, 3) := by decide +kernel
theorem d_M_file_126 : decode b_M_file 126 = .ok (.iload_n 1, 1) := by decide +kernel
theorem d_M_file_127 : decode b_M_file 127 = .ok (.iconst 2, 1) := by decide +kernel
theorem d_M_file_128 : decode b_M_file 128 = .ok (.iadd, 1) := by decide +kernel
theorem d_M_file_129 : decode b_M_file 129 = .ok (.iconst 0, 1) := by decide +kernel
theorem d_M_file_130 : decode b_M_file 130 = .ok (.iastore, 1) := by decide +kernel
theorem d_M_file_131 : decode b_M_file 131 = .ok (.return_, 1) := by decide +kernel
theorem d_M_all_0 : decode b_M_all 0 = .ok (.iconst 1, 1) := by decide +kernel
theorem d_M_all_1 : decode b_M_all 1 = .ok (.aload_n 0, 1) := by decide +kernel
theorem d_M_all_2 : decode b_M_all 2 = .ok (.getfield 65, 3) := by decide +kernel
theorem d_M_all_5 : decode b_M_all 5 = .ok (.ishl, 1) := by decide +kernel
theorem d_M_all_6 : decode b_M_all 6 = .ok (.iconst 1, 1) := by decide +kernel
theorem d_M_all_7 : decode b_M_all 7 = .ok (.isub, 1) := by decide +kernel
theorem d_M_all_8 : decode b_M_all 8 = .ok (.ireturn, 1) := by decide +kernel
theorem d_M_part_0 : decode b_M_part 0 = .ok (.aload_n 0, 1) := by decide +kernel
theorem d_M_part_1 : decode b_M_part 1 = .ok (.iconst 0, 1) := by decide +kernel
theorem d_M_part_2 : decode b_M_part 2 = .ok (.putfield 28, 3) := by decide +kernel
theorem d_M_part_5 : decode b_M_part 5 = .ok (.aload_n 0, 1) := by decide +kernel
theorem d_M_part_6 : decode b_M_part 6 = .ok (.iload_n 1, 1) := by decide +kernel
theorem d_M_part_7 : decode b_M_part 7 = .ok (.invokevirtual 89, 3) := by decide +kernel
theorem d_M_part_10 : decode b_M_part 10 = .ok (.ifCond .eq 25, 3) := by decide +kernel
theorem d_M_part_13 : decode b_M_part 13 = .ok (.iload_n 2, 1) := by decide +kernel
theorem d_M_part_14 : decode b_M_part 14 = .ok (.iconst 0, 1) := by decide +kernel
theorem d_M_part_15 : decode b_M_part 15 = .ok (.iconst 2, 1) := by decide +kernel
theorem d_M_part_16 : decode b_M_part 16 = .ok (.invokestatic 61, 3) := by decide +kernel
theorem d_M_part_19 : decode b_M_part 19 = .ok (.ifCond .eq 16, 3) := by decide +kernel
theorem d_M_part_22 : decode b_M_part 22 = .ok (.aload_n 0, 1) := by decide +kernel
theorem d_M_part_23 : decode b_M_part 23 = .ok (.getfield 13, 3) := by decide +kernel
theorem d_M_part_26 : decode b_M_part 26 = .ok (.iconst 3, 1) := by decide +kernel
theorem d_M_part_27 : decode b_M_part 27 = .ok (.iload_n 1, 1) := by decide +kernel
theorem d_M_part_28 : decode b_M_part 28 = .ok (.imul, 1) := by decide +kernel
theorem d_M_part_29 : decode b_M_part 29 = .ok (.iload_n 2, 1) := by decide +kernel
theorem d_M_part_30 : decode b_M_part 30 = .ok (.iadd, 1) := by decide +kernel
theorem d_M_part_31 : decode b_M_part 31 = .ok (.iaload, 1) := by decide +kernel
theorem d_M_part_32 : decode b_M_part 32 = .ok (.goto 4, 3) := by decide +kernel
theorem d_M_part_35 : decode b_M_part 35 = .ok (.iconst (-1), 1) := by decide +kernel
theorem d_M_part_36 : decode b_M_part 36 = .ok (.ireturn, 1) := by decide +kernel
theorem d_M_isPart_0 : decode b_M_isPart 0 = .ok (.iload_n 1, 1) := by decide +kernel
theorem d_M_isPart_1 : decode b_M_isPart 1 = .ok (.iconst 0, 1) := by decide +kernel
theorem d_M_isPart_2 : decode b_M_isPart 2 = .ok (.aload_n 0, 1) := by decide +kernel
theorem d_M_isPart_3 : decode b_M_isPart 3 = .ok (.getfield 65, 3) := by decide +kernel
theorem d_M_isPart_6 : decode b_M_isPart 6 = .ok (.iconst 1, 1) := by decide +kernel
theorem d_M_isPart_7 : decode b_M_isPart 7 = .ok (.isub, 1) := by decide +kernel
theorem d_M_isPart_8 : decode b_M_isPart 8 = .ok (.invokestatic 61, 3) := by decide +kernel
theorem d_M_isPart_11 : decode b_M_isPart 11 = .ok (.ireturn, 1) := by decide +kernel
theorem d_M_letter_0 : decode b_M_letter 0 = .ok (.aload_n 0, 1) := by decide +kernel
theorem d_M_letter_1 : decode b_M_letter 1 = .ok (.iconst 0, 1) := by decide +kernel
theorem d_M_letter_2 : decode b_M_letter 2 = .ok (.putfield 28, 3) := by decide +kernel
theorem d_M_letter_5 : decode b_M_letter 5 = .ok (.iload_n 1, 1) := by decide +kernel
theorem d_M_letter_6 : decode b_M_letter 6 = .ok (.istore_n 2, 1) := by decide +kernel
theorem d_M_letter_7 : decode b_M_letter 7 = .ok (.iconst 0, 1) := by decide +kernel
theorem d_M_letter_8 : decode b_M_letter 8 = .ok (.istore_n 3, 1) := by decide +kernel
theorem d_M_letter_9 : decode b_M_letter 9 = .ok (.iload_n 3, 1) := by decide +kernel
theorem d_M_letter_10 : decode b_M_letter 10 = .ok (.aload_n 0, 1) := by decide +kernel
theorem d_M_letter_11 : decode b_M_letter 11 = .ok (.getfield 65, 3) := by decide +kernel
theorem d_M_letter_14 : decode b_M_letter 14 = .ok (.if_icmp .ge 66, 3) := by decide +kernel
theorem d_M_letter_17 : decode b_M_letter 17 = .ok (.aload_n 0, 1) := by decide +kernel
theorem d_M_letter_18 : decode b_M_letter 18 = .ok (.getfield 9, 3) := by decide +kernel
theorem d_M_letter_21 : decode b_M_letter 21 = .ok (.ifCond .ne 59, 3) := by decide +kernel
theorem d_M_letter_24 : decode b_M_letter 24 = .ok (.iload_n 2, 1) := by decide +kernel
theorem d_M_letter_25 : decode b_M_letter 25 = .ok (.ifCond .lt 55, 3) := by decide +kernel
theorem d_M_letter_28 : decode b_M_letter 28 = .ok (.aload_n 0, 1) := by decide +kernel
theorem d_M_letter_29 : decode b_M_letter 29 = .ok (.getfield 13, 3) := by decide +kernel
theorem d_M_letter_32 : decode b_M_letter 32 = .ok (.iconst 3, 1) := by decide +kernel
theorem d_M_letter_33 : decode b_M_letter 33 = .ok (.iload_n 3, 1) := by decide +kernel
theorem d_M_letter_34 : decode b_M_letter 34 = .ok (.imul, 1) := by decide +kernel
theorem d_M_letter_35 : decode b_M_letter 35 = .ok (.iaload, 1) := by decide +kernel
theorem d_M_letter_36 : decode b_M_letter 36 = .ok (.istore 4, 2) := by decide +kernel
theorem d_M_letter_38 : decode b_M_letter 38 = .ok (.iload_n 2, 1) := by decide +kernel
theorem d_M_letter_39 : decode b_M_letter 39 = .ok (.iload 4, 2) := by decide +kernel
theorem d_M_letter_41 : decode b_M_letter 41 = .ok (.if_icmp .gt 26, 3) := by decide +kernel
theorem d_M_letter_44 : decode b_M_letter 44 = .ok (.iload_n 2, 1) := by decide +kernel
theorem d_M_letter_45 : decode b_M_letter 45 = .ok (.iload 4, 2) := by decide +kernel
theorem d_M_letter_47 : decode b_M_letter 47 = .ok (.if_icmp .ne 8, 3) := by decide +kernel
theorem d_M_letter_50 : decode b_M_letter 50 = .ok (.bipush 10, 2) := by decide +kernel
theorem d_M_letter_52 : decode b_M_letter 52 = .ok (.goto 14, 3) := by decide +kernel
theorem d_M_letter_55 : decode b_M_letter 55 = .ok (.aload_n 0, 1) := by decide +kernel
theorem d_M_letter_56 : decode b_M_letter 56 = .ok (.getfield 17, 3) := by decide +kernel
theorem d_M_letter_59 : decode b_M_letter 59 = .ok (.bipush 6, 2) := by decide +kernel
theorem d_M_letter_61 : decode b_M_letter 61 = .ok (.iload_n 3, 1) := by decide +kernel
theorem d_M_letter_62 : decode b_M_letter 62 = .ok (.imul, 1) := by decide +kernel
theorem d_M_letter_63 : decode b_M_letter 63 = .ok (.iload_n 2, 1) := by decide +kernel
theorem d_M_letter_64 : decode b_M_letter 64 = .ok (.iadd, 1) := by decide +kernel
theorem d_M_letter_65 : decode b_M_letter 65 = .ok (.baload, 1) := by decide +kernel
theorem d_M_letter_66 : decode b_M_letter 66 = .ok (.ireturn, 1) := by decide +kernel
theorem d_M_letter_67 : decode b_M_letter 67 = .ok (.iload_n 2, 1) := by decide +kernel
theorem d_M_letter_68 : decode b_M_letter 68 = .ok (.iload 4, 2) := by decide +kernel
theorem d_M_letter_70 : decode b_M_letter 70 = .ok (.iconst 1, 1) := by decide +kernel
theorem d_M_letter_71 : decode b_M_letter 71 = .ok (.iadd, 1) := by decide +kernel
theorem d_M_letter_72 : decode b_M_letter 72 = .ok (.isub, 1) := by decide +kernel
theorem d_M_letter_73 : decode b_M_letter 73 = .ok (.istore_n 2, 1) := by decide +kernel
theorem d_M_letter_74 : decode b_M_letter 74 = .ok (.iinc 3 1, 3) := by decide +kernel
theorem d_M_letter_77 : decode b_M_letter 77 = .ok (.goto (-68), 3) := by decide +kernel
theorem d_M_letter_80 : decode b_M_letter 80 = .ok (.iconst (-1), 1) := by decide +kernel
theorem d_M_letter_81 : decode b_M_letter 81 = .ok (.ireturn, 1) := by decide +kernel
theorem d_M_majority_0 : decode b_M_majority 0 = .ok (.aload_n 0, 1) := by decide +kernel
theorem d_M_majority_1 : decode b_M_majority 1 = .ok (.iconst 0, 1) := by decide +kernel
theorem d_M_majority_2 : decode b_M_majority 2 = .ok (.putfield 28, 3) := by decide +kernel
theorem d_M_majority_5 : decode b_M_majority 5 = .ok (.aload_n 0, 1) := by decide +kernel
theorem d_M_majority_6 : decode b_M_majority 6 = .ok (.getfield 9, 3) := by decide +kernel
theorem d_M_majority_9 : decode b_M_majority 9 = .ok (.iconst 1, 1) := by decide +kernel
theorem d_M_majority_10 : decode b_M_majority 10 = .ok (.if_icmp .ne 19, 3) := by decide +kernel
theorem d_M_majority_13 : decode b_M_majority 13 = .ok (.aload_n 0, 1) := by decide +kernel
theorem d_M_majority_14 : decode b_M_majority 14 = .ok (.iload_n 1, 1) := by decide +kernel
theorem d_M_majority_15 : decode b_M_majority 15 = .ok (.invokevirtual 89, 3) := by decide +kernel
theorem d_M_majority_18 : decode b_M_majority 18 = .ok (.ifCond .eq 11, 3) := by decide +kernel
theorem d_M_majority_21 : decode b_M_majority 21 = .ok (.aload_n 0, 1) := by decide +kernel
theorem d_M_majority_22 : decode b_M_majority 22 = .ok (.iload_n 1, 1) := by decide +kernel
theorem d_M_majority_23 : decode b_M_majority 23 = .ok (.invokevirtual 93, 3) := by decide +kernel
theorem d_M_majority_26 : decode b_M_majority 26 = .ok (.goto 4, 3) := by decide +kernel
theorem d_M_majority_29 : decode b_M_majority 29 = .ok (.iconst (-1), 1) := by decide +kernel
theorem d_M_majority_30 : decode b_M_majority 30 = .ok (.ireturn, 1) := by decide +kernel
theorem d_M_wins_0 : decode b_M_wins 0 = .ok (.aload_n 0, 1) := by decide +kernel
theorem d_M_wins_1 : decode b_M_wins 1 = .ok (.getfield 13, 3) := by decide +kernel
theorem d_M_wins_4 : decode b_M_wins 4 = .ok (.iconst 3, 1) := by decide +kernel
theorem d_M_wins_5 : decode b_M_wins 5 = .ok (.iload_n 1, 1) := by decide +kernel
theorem d_M_wins_6 : decode b_M_wins 6 = .ok (.imul, 1) := by decide +kernel
theorem d_M_wins_7 : decode b_M_wins 7 = .ok (.iaload, 1) := by decide +kernel
theorem d_M_wins_8 : decode b_M_wins 8 = .ok (.istore_n 2, 1) := by decide +kernel
theorem d_M_wins_9 : decode b_M_wins 9 = .ok (.iconst 0, 1) := by decide +kernel
theorem d_M_wins_10 : decode b_M_wins 10 = .ok (.istore_n 3, 1) := by decide +kernel
theorem d_M_wins_11 : decode b_M_wins 11 = .ok (.iload_n 3, 1) := by decide +kernel
theorem d_M_wins_12 : decode b_M_wins 12 = .ok (.iconst 3, 1) := by decide +kernel
theorem d_M_wins_13 : decode b_M_wins 13 = .ok (.if_icmp .ge 68, 3) := by decide +kernel
theorem d_M_wins_16 : decode b_M_wins 16 = .ok (.iconst 0, 1) := by decide +kernel
theorem d_M_wins_17 : decode b_M_wins 17 = .ok (.istore 4, 2) := by decide +kernel
theorem d_M_wins_19 : decode b_M_wins 19 = .ok (.iconst 0, 1) := by decide +kernel
theorem d_M_wins_20 : decode b_M_wins 20 = .ok (.istore 5, 2) := by decide +kernel
theorem d_M_wins_22 : decode b_M_wins 22 = .ok (.iload 5, 2) := by decide +kernel
theorem d_M_wins_24 : decode b_M_wins 24 = .ok (.iload_n 2, 1) := by decide +kernel
theorem d_M_wins_25 : decode b_M_wins 25 = .ok (.if_icmp .ge 40, 3) := by decide +kernel
theorem d_M_wins_28 : decode b_M_wins 28 = .ok (.iload 4, 2) := by decide +kernel
theorem d_M_wins_30 : decode b_M_wins 30 = .ok (.aload_n 0, 1) := by decide +kernel
theorem d_M_wins_31 : decode b_M_wins 31 = .ok (.getfield 13, 3) := by decide +kernel
theorem d_M_wins_34 : decode b_M_wins 34 = .ok (.iconst 3, 1) := by decide +kernel
theorem d_M_wins_35 : decode b_M_wins 35 = .ok (.iload_n 1, 1) := by decide +kernel
theorem d_M_wins_36 : decode b_M_wins 36 = .ok (.imul, 1) := by decide +kernel
theorem d_M_wins_37 : decode b_M_wins 37 = .ok (.iconst 1, 1) := by decide +kernel
theorem d_M_wins_38 : decode b_M_wins 38 = .ok (.iadd, 1) := by decide +kernel
theorem d_M_wins_39 : decode b_M_wins 39 = .ok (.iaload, 1) := by decide +kernel
theorem d_M_wins_40 : decode b_M_wins 40 = .ok (.iconst 2, 1) := by decide +kernel
theorem d_M_wins_41 : decode b_M_wins 41 = .ok (.iload 5, 2) := by decide +kernel
theorem d_M_wins_43 : decode b_M_wins 43 = .ok (.imul, 1) := by decide +kernel
theorem d_M_wins_44 : decode b_M_wins 44 = .ok (.ishr, 1) := by decide +kernel
theorem d_M_wins_45 : decode b_M_wins 45 = .ok (.iconst 3, 1) := by decide +kernel
theorem d_M_wins_46 : decode b_M_wins 46 = .ok (.iand, 1) := by decide +kernel
theorem d_M_wins_47 : decode b_M_wins 47 = .ok (.iload_n 3, 1) := by decide +kernel
theorem d_M_wins_48 : decode b_M_wins 48 = .ok (.if_icmp .ne 7, 3) := by decide +kernel
theorem d_M_wins_51 : decode b_M_wins 51 = .ok (.iconst 1, 1) := by decide +kernel
theorem d_M_wins_52 : decode b_M_wins 52 = .ok (.goto 4, 3) := by decide +kernel
theorem d_M_wins_55 : decode b_M_wins 55 = .ok (.iconst 0, 1) := by decide +kernel
theorem d_M_wins_56 : decode b_M_wins 56 = .ok (.iadd, 1) := by decide +kernel
theorem d_M_wins_57 : decode b_M_wins 57 = .ok (.istore 4, 2) := by decide +kernel
theorem d_M_wins_59 : decode b_M_wins 59 = .ok (.iinc 5 1, 3) := by decide +kernel
theorem d_M_wins_62 : decode b_M_wins 62 = .ok (.goto (-40), 3) := by decide +kernel
theorem d_M_wins_65 : decode b_M_wins 65 = .ok (.iconst 2, 1) := by decide +kernel
theorem d_M_wins_66 : decode b_M_wins 66 = .ok (.iload 4, 2) := by decide +kernel
theorem d_M_wins_68 : decode b_M_wins 68 = .ok (.imul, 1) := by decide +kernel
theorem d_M_wins_69 : decode b_M_wins 69 = .ok (.iload_n 2, 1) := by decide +kernel
theorem d_M_wins_70 : decode b_M_wins 70 = .ok (.if_icmp .le 5, 3) := by decide +kernel
theorem d_M_wins_73 : decode b_M_wins 73 = .ok (.iload_n 3, 1) := by decide +kernel
theorem d_M_wins_74 : decode b_M_wins 74 = .ok (.ireturn, 1) := by decide +kernel
theorem d_M_wins_75 : decode b_M_wins 75 = .ok (.iinc 3 1, 3) := by decide +kernel
theorem d_M_wins_78 : decode b_M_wins 78 = .ok (.goto (-67), 3) := by decide +kernel
theorem d_M_wins_81 : decode b_M_wins 81 = .ok (.iconst (-1), 1) := by decide +kernel
theorem d_M_wins_82 : decode b_M_wins 82 = .ok (.ireturn, 1) := by decide +kernel
theorem d_M_ends_0 : decode b_M_ends 0 = .ok (.aload_n 0, 1) := by decide +kernel
theorem d_M_ends_1 : decode b_M_ends 1 = .ok (.iconst 0, 1) := by decide +kernel
theorem d_M_ends_2 : decode b_M_ends 2 = .ok (.putfield 28, 3) := by decide +kernel
theorem d_M_ends_5 : decode b_M_ends 5 = .ok (.aload_n 0, 1) := by decide +kernel
theorem d_M_ends_6 : decode b_M_ends 6 = .ok (.getfield 9, 3) := by decide +kernel
theorem d_M_ends_9 : decode b_M_ends 9 = .ok (.iconst 2, 1) := by decide +kernel
theorem d_M_ends_10 : decode b_M_ends 10 = .ok (.if_icmp .ne 26, 3) := by decide +kernel
theorem d_M_ends_13 : decode b_M_ends 13 = .ok (.aload_n 0, 1) := by decide +kernel
theorem d_M_ends_14 : decode b_M_ends 14 = .ok (.iload_n 1, 1) := by decide +kernel
theorem d_M_ends_15 : decode b_M_ends 15 = .ok (.invokevirtual 89, 3) := by decide +kernel
theorem d_M_ends_18 : decode b_M_ends 18 = .ok (.ifCond .eq 18, 3) := by decide +kernel
theorem d_M_ends_21 : decode b_M_ends 21 = .ok (.aload_n 0, 1) := by decide +kernel
theorem d_M_ends_22 : decode b_M_ends 22 = .ok (.iload_n 1, 1) := by decide +kernel
theorem d_M_ends_23 : decode b_M_ends 23 = .ok (.invokevirtual 96, 3) := by decide +kernel
theorem d_M_ends_26 : decode b_M_ends 26 = .ok (.sipush 1500, 3) := by decide +kernel
theorem d_M_ends_29 : decode b_M_ends 29 = .ok (.if_icmp .gt 7, 3) := by decide +kernel
theorem d_M_ends_32 : decode b_M_ends 32 = .ok (.iconst 1, 1) := by decide +kernel
theorem d_M_ends_33 : decode b_M_ends 33 = .ok (.goto 4, 3) := by decide +kernel
theorem d_M_ends_36 : decode b_M_ends 36 = .ok (.iconst 0, 1) := by decide +kernel
theorem d_M_ends_37 : decode b_M_ends 37 = .ok (.ireturn, 1) := by decide +kernel
theorem d_M_lastDay_0 : decode b_M_lastDay 0 = .ok (.aload_n 0, 1) := by decide +kernel
theorem d_M_lastDay_1 : decode b_M_lastDay 1 = .ok (.getfield 13, 3) := by decide +kernel
theorem d_M_lastDay_4 : decode b_M_lastDay 4 = .ok (.iconst 3, 1) := by decide +kernel
theorem d_M_lastDay_5 : decode b_M_lastDay 5 = .ok (.iload_n 1, 1) := by decide +kernel
theorem d_M_lastDay_6 : decode b_M_lastDay 6 = .ok (.imul, 1) := by decide +kernel
theorem d_M_lastDay_7 : decode b_M_lastDay 7 = .ok (.iaload, 1) := by decide +kernel
theorem d_M_lastDay_8 : decode b_M_lastDay 8 = .ok (.aload_n 0, 1) := by decide +kernel
theorem d_M_lastDay_9 : decode b_M_lastDay 9 = .ok (.getfield 13, 3) := by decide +kernel
theorem d_M_lastDay_12 : decode b_M_lastDay 12 = .ok (.iconst 3, 1) := by decide +kernel
theorem d_M_lastDay_13 : decode b_M_lastDay 13 = .ok (.iload_n 1, 1) := by decide +kernel
theorem d_M_lastDay_14 : decode b_M_lastDay 14 = .ok (.imul, 1) := by decide +kernel
theorem d_M_lastDay_15 : decode b_M_lastDay 15 = .ok (.iconst 1, 1) := by decide +kernel
theorem d_M_lastDay_16 : decode b_M_lastDay 16 = .ok (.iadd, 1) := by decide +kernel
theorem d_M_lastDay_17 : decode b_M_lastDay 17 = .ok (.iaload, 1) := by decide +kernel
theorem d_M_lastDay_18 : decode b_M_lastDay 18 = .ok (.aload_n 0, 1) := by decide +kernel
theorem d_M_lastDay_19 : decode b_M_lastDay 19 = .ok (.getfield 13, 3) := by decide +kernel
theorem d_M_lastDay_22 : decode b_M_lastDay 22 = .ok (.iconst 3, 1) := by decide +kernel
theorem d_M_lastDay_23 : decode b_M_lastDay 23 = .ok (.iload_n 1, 1) := by decide +kernel
theorem d_M_lastDay_24 : decode b_M_lastDay 24 = .ok (.imul, 1) := by decide +kernel
theorem d_M_lastDay_25 : decode b_M_lastDay 25 = .ok (.iconst 2, 1) := by decide +kernel
theorem d_M_lastDay_26 : decode b_M_lastDay 26 = .ok (.iadd, 1) := by decide +kernel
theorem d_M_lastDay_27 : decode b_M_lastDay 27 = .ok (.iaload, 1) := by decide +kernel
theorem d_M_lastDay_28 : decode b_M_lastDay 28 = .ok (.iconst 1, 1) := by decide +kernel
theorem d_M_lastDay_29 : decode b_M_lastDay 29 = .ok (.isub, 1) := by decide +kernel
theorem d_M_lastDay_30 : decode b_M_lastDay 30 = .ok (.imul, 1) := by decide +kernel
theorem d_M_lastDay_31 : decode b_M_lastDay 31 = .ok (.iadd, 1) := by decide +kernel
theorem d_M_lastDay_32 : decode b_M_lastDay 32 = .ok (.ireturn, 1) := by decide +kernel
theorem d_M_planted_0 : decode b_M_planted 0 = .ok (.aload_n 0, 1) := by decide +kernel
theorem d_M_planted_1 : decode b_M_planted 1 = .ok (.iconst 0, 1) := by decide +kernel
theorem d_M_planted_2 : decode b_M_planted 2 = .ok (.putfield 28, 3) := by decide +kernel
theorem d_M_planted_5 : decode b_M_planted 5 = .ok (.iload_n 1, 1) := by decide +kernel
theorem d_M_planted_6 : decode b_M_planted 6 = .ok (.iconst 0, 1) := by decide +kernel
theorem d_M_planted_7 : decode b_M_planted 7 = .ok (.bipush 7, 2) := by decide +kernel
theorem d_M_planted_9 : decode b_M_planted 9 = .ok (.invokestatic 61, 3) := by decide +kernel
theorem d_M_planted_12 : decode b_M_planted 12 = .ok (.ifCond .ne 5, 3) := by decide +kernel
theorem d_M_planted_15 : decode b_M_planted 15 = .ok (.iconst (-1), 1) := by decide +kernel
theorem d_M_planted_16 : decode b_M_planted 16 = .ok (.ireturn, 1) := by decide +kernel
theorem d_M_planted_17 : decode b_M_planted 17 = .ok (.iconst 0, 1) := by decide +kernel
theorem d_M_planted_18 : decode b_M_planted 18 = .ok (.istore_n 2, 1) := by decide +kernel
theorem d_M_planted_19 : decode b_M_planted 19 = .ok (.iconst 0, 1) := by decide +kernel
theorem d_M_planted_20 : decode b_M_planted 20 = .ok (.istore_n 3, 1) := by decide +kernel
theorem d_M_planted_21 : decode b_M_planted 21 = .ok (.iload_n 3, 1) := by decide +kernel
theorem d_M_planted_22 : decode b_M_planted 22 = .ok (.aload_n 0, 1) := by decide +kernel
theorem d_M_planted_23 : decode b_M_planted 23 = .ok (.getfield 65, 3) := by decide +kernel
theorem d_M_planted_26 : decode b_M_planted 26 = .ok (.if_icmp .ge 26, 3) := by decide +kernel
theorem d_M_planted_29 : decode b_M_planted 29 = .ok (.iload_n 2, 1) := by decide +kernel
theorem d_M_planted_30 : decode b_M_planted 30 = .ok (.aload_n 0, 1) := by decide +kernel
theorem d_M_planted_31 : decode b_M_planted 31 = .ok (.iload_n 3, 1) := by decide +kernel
theorem d_M_planted_32 : decode b_M_planted 32 = .ok (.iload_n 1, 1) := by decide +kernel
theorem d_M_planted_33 : decode b_M_planted 33 = .ok (.invokevirtual 99, 3) := by decide +kernel
theorem d_M_planted_36 : decode b_M_planted 36 = .ok (.ifCond .eq 7, 3) := by decide +kernel
theorem d_M_planted_39 : decode b_M_planted 39 = .ok (.iconst 1, 1) := by decide +kernel
theorem d_M_planted_40 : decode b_M_planted 40 = .ok (.goto 4, 3) := by decide +kernel
theorem d_M_planted_43 : decode b_M_planted 43 = .ok (.iconst 0, 1) := by decide +kernel
theorem d_M_planted_44 : decode b_M_planted 44 = .ok (.iadd, 1) := by decide +kernel
theorem d_M_planted_45 : decode b_M_planted 45 = .ok (.istore_n 2, 1) := by decide +kernel
theorem d_M_planted_46 : decode b_M_planted 46 = .ok (.iinc 3 1, 3) := by decide +kernel
theorem d_M_planted_49 : decode b_M_planted 49 = .ok (.goto (-28), 3) := by decide +kernel
theorem d_M_planted_52 : decode b_M_planted 52 = .ok (.iload_n 2, 1) := by decide +kernel
theorem d_M_planted_53 : decode b_M_planted 53 = .ok (.ireturn, 1) := by decide +kernel
theorem d_M_isPlanted_0 : decode b_M_isPlanted 0 = .ok (.iload_n 2, 1) := by decide +kernel
theorem d_M_isPlanted_1 : decode b_M_isPlanted 1 = .ok (.tableswitch 220 0 6 #[43, 67, 93, 119, 141, 166, 193], 43) := by decide +kernel
theorem d_M_isPlanted_44 : decode b_M_isPlanted 44 = .ok (.aload_n 0, 1) := by decide +kernel
theorem d_M_isPlanted_45 : decode b_M_isPlanted 45 = .ok (.getfield 9, 3) := by decide +kernel
theorem d_M_isPlanted_48 : decode b_M_isPlanted 48 = .ok (.ifCond .ne 18, 3) := by decide +kernel
theorem d_M_isPlanted_51 : decode b_M_isPlanted 51 = .ok (.aload_n 0, 1) := by decide +kernel
theorem d_M_isPlanted_52 : decode b_M_isPlanted 52 = .ok (.getfield 13, 3) := by decide +kernel
theorem d_M_isPlanted_55 : decode b_M_isPlanted 55 = .ok (.iconst 3, 1) := by decide +kernel
theorem d_M_isPlanted_56 : decode b_M_isPlanted 56 = .ok (.iload_n 1, 1) := by decide +kernel
theorem d_M_isPlanted_57 : decode b_M_isPlanted 57 = .ok (.imul, 1) := by decide +kernel
theorem d_M_isPlanted_58 : decode b_M_isPlanted 58 = .ok (.iaload, 1) := by decide +kernel
theorem d_M_isPlanted_59 : decode b_M_isPlanted 59 = .ok (.ifCond .ne 7, 3) := by decide +kernel
theorem d_M_isPlanted_62 : decode b_M_isPlanted 62 = .ok (.iconst 1, 1) := by decide +kernel
theorem d_M_isPlanted_63 : decode b_M_isPlanted 63 = .ok (.goto 4, 3) := by decide +kernel
theorem d_M_isPlanted_66 : decode b_M_isPlanted 66 = .ok (.iconst 0, 1) := by decide +kernel
theorem d_M_isPlanted_67 : decode b_M_isPlanted 67 = .ok (.ireturn, 1) := by decide +kernel
theorem d_M_isPlanted_68 : decode b_M_isPlanted 68 = .ok (.aload_n 0, 1) := by decide +kernel
theorem d_M_isPlanted_69 : decode b_M_isPlanted 69 = .ok (.getfield 9, 3) := by decide +kernel
theorem d_M_isPlanted_72 : decode b_M_isPlanted 72 = .ok (.ifCond .ne 20, 3) := by decide +kernel
theorem d_M_isPlanted_75 : decode b_M_isPlanted 75 = .ok (.aload_n 0, 1) := by decide +kernel
theorem d_M_isPlanted_76 : decode b_M_isPlanted 76 = .ok (.getfield 13, 3) := by decide +kernel
theorem d_M_isPlanted_79 : decode b_M_isPlanted 79 = .ok (.iconst 3, 1) := by decide +kernel
theorem d_M_isPlanted_80 : decode b_M_isPlanted 80 = .ok (.iload_n 1, 1) := by decide +kernel
theorem d_M_isPlanted_81 : decode b_M_isPlanted 81 = .ok (.imul, 1) := by decide +kernel
theorem d_M_isPlanted_82 : decode b_M_isPlanted 82 = .ok (.iconst 1, 1) := by decide +kernel
theorem d_M_isPlanted_83 : decode b_M_isPlanted 83 = .ok (.iadd, 1) := by decide +kernel
theorem d_M_isPlanted_84 : decode b_M_isPlanted 84 = .ok (.iaload, 1) := by decide +kernel
theorem d_M_isPlanted_85 : decode b_M_isPlanted 85 = .ok (.ifCond .ne 7, 3) := by decide +kernel
theorem d_M_isPlanted_88 : decode b_M_isPlanted 88 = .ok (.iconst 1, 1) := by decide +kernel
theorem d_M_isPlanted_89 : decode b_M_isPlanted 89 = .ok (.goto 4, 3) := by decide +kernel
theorem d_M_isPlanted_92 : decode b_M_isPlanted 92 = .ok (.iconst 0, 1) := by decide +kernel
theorem d_M_isPlanted_93 : decode b_M_isPlanted 93 = .ok (.ireturn, 1) := by decide +kernel
theorem d_M_isPlanted_94 : decode b_M_isPlanted 94 = .ok (.aload_n 0, 1) := by decide +kernel
theorem d_M_isPlanted_95 : decode b_M_isPlanted 95 = .ok (.getfield 9, 3) := by decide +kernel
theorem d_M_isPlanted_98 : decode b_M_isPlanted 98 = .ok (.ifCond .ne 20, 3) := by decide +kernel
theorem d_M_isPlanted_101 : decode b_M_isPlanted 101 = .ok (.aload_n 0, 1) := by decide +kernel
theorem d_M_isPlanted_102 : decode b_M_isPlanted 102 = .ok (.getfield 13, 3) := by decide +kernel
theorem d_M_isPlanted_105 : decode b_M_isPlanted 105 = .ok (.iconst 3, 1) := by decide +kernel
theorem d_M_isPlanted_106 : decode b_M_isPlanted 106 = .ok (.iload_n 1, 1) := by decide +kernel
theorem d_M_isPlanted_107 : decode b_M_isPlanted 107 = .ok (.imul, 1) := by decide +kernel
theorem d_M_isPlanted_108 : decode b_M_isPlanted 108 = .ok (.iconst 2, 1) := by decide +kernel
theorem d_M_isPlanted_109 : decode b_M_isPlanted 109 = .ok (.iadd, 1) := by decide +kernel
theorem d_M_isPlanted_110 : decode b_M_isPlanted 110 = .ok (.iaload, 1) := by decide +kernel
theorem d_M_isPlanted_111 : decode b_M_isPlanted 111 = .ok (.ifCond .lt 7, 3) := by decide +kernel
theorem d_M_isPlanted_114 : decode b_M_isPlanted 114 = .ok (.iconst 1, 1) := by decide +kernel
theorem d_M_isPlanted_115 : decode b_M_isPlanted 115 = .ok (.goto 4, 3) := by decide +kernel
theorem d_M_isPlanted_118 : decode b_M_isPlanted 118 = .ok (.iconst 0, 1) := by decide +kernel
theorem d_M_isPlanted_119 : decode b_M_isPlanted 119 = .ok (.ireturn, 1) := by decide +kernel
theorem d_M_isPlanted_120 : decode b_M_isPlanted 120 = .ok (.aload_n 0, 1) := by decide +kernel
theorem d_M_isPlanted_121 : decode b_M_isPlanted 121 = .ok (.getfield 9, 3) := by decide +kernel
theorem d_M_isPlanted_124 : decode b_M_isPlanted 124 = .ok (.iconst 1, 1) := by decide +kernel
theorem d_M_isPlanted_125 : decode b_M_isPlanted 125 = .ok (.if_icmp .ne 15, 3) := by decide +kernel
theorem d_M_isPlanted_128 : decode b_M_isPlanted 128 = .ok (.aload_n 0, 1) := by decide +kernel
theorem d_M_isPlanted_129 : decode b_M_isPlanted 129 = .ok (.iload_n 1, 1) := by decide +kernel
theorem d_M_isPlanted_130 : decode b_M_isPlanted 130 = .ok (.invokevirtual 93, 3) := by decide +kernel
theorem d_M_isPlanted_133 : decode b_M_isPlanted 133 = .ok (.ifCond .ge 7, 3) := by decide +kernel
theorem d_M_isPlanted_136 : decode b_M_isPlanted 136 = .ok (.iconst 1, 1) := by decide +kernel
theorem d_M_isPlanted_137 : decode b_M_isPlanted 137 = .ok (.goto 4, 3) := by decide +kernel
theorem d_M_isPlanted_140 : decode b_M_isPlanted 140 = .ok (.iconst 0, 1) := by decide +kernel
theorem d_M_isPlanted_141 : decode b_M_isPlanted 141 = .ok (.ireturn, 1) := by decide +kernel
theorem d_M_isPlanted_142 : decode b_M_isPlanted 142 = .ok (.aload_n 0, 1) := by decide +kernel
theorem d_M_isPlanted_143 : decode b_M_isPlanted 143 = .ok (.getfield 9, 3) := by decide +kernel
theorem d_M_isPlanted_146 : decode b_M_isPlanted 146 = .ok (.iconst 2, 1) := by decide +kernel
theorem d_M_isPlanted_147 : decode b_M_isPlanted 147 = .ok (.if_icmp .ne 18, 3) := by decide +kernel
theorem d_M_isPlanted_150 : decode b_M_isPlanted 150 = .ok (.aload_n 0, 1) := by decide +kernel
theorem d_M_isPlanted_151 : decode b_M_isPlanted 151 = .ok (.iload_n 1, 1) := by decide +kernel
theorem d_M_isPlanted_152 : decode b_M_isPlanted 152 = .ok (.invokevirtual 96, 3) := by decide +kernel
theorem d_M_isPlanted_155 : decode b_M_isPlanted 155 = .ok (.sipush 1500, 3) := by decide +kernel
theorem d_M_isPlanted_158 : decode b_M_isPlanted 158 = .ok (.if_icmp .ne 7, 3) := by decide +kernel
theorem d_M_isPlanted_161 : decode b_M_isPlanted 161 = .ok (.iconst 1, 1) := by decide +kernel
theorem d_M_isPlanted_162 : decode b_M_isPlanted 162 = .ok (.goto 4, 3) := by decide +kernel
theorem d_M_isPlanted_165 : decode b_M_isPlanted 165 = .ok (.iconst 0, 1) := by decide +kernel
theorem d_M_isPlanted_166 : decode b_M_isPlanted 166 = .ok (.ireturn, 1) := by decide +kernel
theorem d_M_isPlanted_167 : decode b_M_isPlanted 167 = .ok (.aload_n 0, 1) := by decide +kernel
theorem d_M_isPlanted_168 : decode b_M_isPlanted 168 = .ok (.getfield 9, 3) := by decide +kernel
theorem d_M_isPlanted_171 : decode b_M_isPlanted 171 = .ok (.iconst 3, 1) := by decide +kernel
theorem d_M_isPlanted_172 : decode b_M_isPlanted 172 = .ok (.if_icmp .ne 20, 3) := by decide +kernel
theorem d_M_isPlanted_175 : decode b_M_isPlanted 175 = .ok (.aload_n 0, 1) := by decide +kernel
theorem d_M_isPlanted_176 : decode b_M_isPlanted 176 = .ok (.getfield 13, 3) := by decide +kernel
theorem d_M_isPlanted_179 : decode b_M_isPlanted 179 = .ok (.iconst 3, 1) := by decide +kernel
theorem d_M_isPlanted_180 : decode b_M_isPlanted 180 = .ok (.iload_n 1, 1) := by decide +kernel
theorem d_M_isPlanted_181 : decode b_M_isPlanted 181 = .ok (.imul, 1) := by decide +kernel
theorem d_M_isPlanted_182 : decode b_M_isPlanted 182 = .ok (.iconst 2, 1) := by decide +kernel
theorem d_M_isPlanted_183 : decode b_M_isPlanted 183 = .ok (.iadd, 1) := by decide +kernel
theorem d_M_isPlanted_184 : decode b_M_isPlanted 184 = .ok (.iaload, 1) := by decide +kernel
theorem d_M_isPlanted_185 : decode b_M_isPlanted 185 = .ok (.ifCond .le 7, 3) := by decide +kernel
theorem d_M_isPlanted_188 : decode b_M_isPlanted 188 = .ok (.iconst 1, 1) := by decide +kernel
theorem d_M_isPlanted_189 : decode b_M_isPlanted 189 = .ok (.goto 4, 3) := by decide +kernel
theorem d_M_isPlanted_192 : decode b_M_isPlanted 192 = .ok (.iconst 0, 1) := by decide +kernel
theorem d_M_isPlanted_193 : decode b_M_isPlanted 193 = .ok (.ireturn, 1) := by decide +kernel
theorem d_M_isPlanted_194 : decode b_M_isPlanted 194 = .ok (.aload_n 0, 1) := by decide +kernel
theorem d_M_isPlanted_195 : decode b_M_isPlanted 195 = .ok (.getfield 9, 3) := by decide +kernel
theorem d_M_isPlanted_198 : decode b_M_isPlanted 198 = .ok (.iconst 4, 1) := by decide +kernel
theorem d_M_isPlanted_199 : decode b_M_isPlanted 199 = .ok (.if_icmp .ne 20, 3) := by decide +kernel
theorem d_M_isPlanted_202 : decode b_M_isPlanted 202 = .ok (.aload_n 0, 1) := by decide +kernel
theorem d_M_isPlanted_203 : decode b_M_isPlanted 203 = .ok (.getfield 13, 3) := by decide +kernel
theorem d_M_isPlanted_206 : decode b_M_isPlanted 206 = .ok (.iconst 3, 1) := by decide +kernel
theorem d_M_isPlanted_207 : decode b_M_isPlanted 207 = .ok (.iload_n 1, 1) := by decide +kernel
theorem d_M_isPlanted_208 : decode b_M_isPlanted 208 = .ok (.imul, 1) := by decide +kernel
theorem d_M_isPlanted_209 : decode b_M_isPlanted 209 = .ok (.iconst 1, 1) := by decide +kernel
theorem d_M_isPlanted_210 : decode b_M_isPlanted 210 = .ok (.iadd, 1) := by decide +kernel
theorem d_M_isPlanted_211 : decode b_M_isPlanted 211 = .ok (.iaload, 1) := by decide +kernel
theorem d_M_isPlanted_212 : decode b_M_isPlanted 212 = .ok (.ifCond .lt 7, 3) := by decide +kernel
theorem d_M_isPlanted_215 : decode b_M_isPlanted 215 = .ok (.iconst 1, 1) := by decide +kernel
theorem d_M_isPlanted_216 : decode b_M_isPlanted 216 = .ok (.goto 4, 3) := by decide +kernel
theorem d_M_isPlanted_219 : decode b_M_isPlanted 219 = .ok (.iconst 0, 1) := by decide +kernel
theorem d_M_isPlanted_220 : decode b_M_isPlanted 220 = .ok (.ireturn, 1) := by decide +kernel
theorem d_M_isPlanted_221 : decode b_M_isPlanted 221 = .ok (.aload_n 0, 1) := by decide +kernel
theorem d_M_isPlanted_222 : decode b_M_isPlanted 222 = .ok (.getfield 9, 3) := by decide +kernel
theorem d_M_isPlanted_225 : decode b_M_isPlanted 225 = .ok (.iconst 5, 1) := by decide +kernel
theorem d_M_isPlanted_226 : decode b_M_isPlanted 226 = .ok (.if_icmp .ne 38, 3) := by decide +kernel
theorem d_M_isPlanted_229 : decode b_M_isPlanted 229 = .ok (.aload_n 0, 1) := by decide +kernel
theorem d_M_isPlanted_230 : decode b_M_isPlanted 230 = .ok (.getfield 13, 3) := by decide +kernel
theorem d_M_isPlanted_233 : decode b_M_isPlanted 233 = .ok (.iconst 3, 1) := by decide +kernel
theorem d_M_isPlanted_234 : decode b_M_isPlanted 234 = .ok (.iload_n 1, 1) := by decide +kernel
theorem d_M_isPlanted_235 : decode b_M_isPlanted 235 = .ok (.imul, 1) := by decide +kernel
theorem d_M_isPlanted_236 : decode b_M_isPlanted 236 = .ok (.iconst 2, 1) := by decide +kernel
theorem d_M_isPlanted_237 : decode b_M_isPlanted 237 = .ok (.iadd, 1) := by decide +kernel
theorem d_M_isPlanted_238 : decode b_M_isPlanted 238 = .ok (.iaload, 1) := by decide +kernel
theorem d_M_isPlanted_239 : decode b_M_isPlanted 239 = .ok (.iload_n 1, 1) := by decide +kernel
theorem d_M_isPlanted_240 : decode b_M_isPlanted 240 = .ok (.ifCond .ne 7, 3) := by decide +kernel
theorem d_M_isPlanted_243 : decode b_M_isPlanted 243 = .ok (.iconst 0, 1) := by decide +kernel
theorem d_M_isPlanted_244 : decode b_M_isPlanted 244 = .ok (.goto 13, 3) := by decide +kernel
theorem d_M_isPlanted_247 : decode b_M_isPlanted 247 = .ok (.aload_n 0, 1) := by decide +kernel
theorem d_M_isPlanted_248 : decode b_M_isPlanted 248 = .ok (.getfield 13, 3) := by decide +kernel
theorem d_M_isPlanted_251 : decode b_M_isPlanted 251 = .ok (.iconst 3, 1) := by decide +kernel
theorem d_M_isPlanted_252 : decode b_M_isPlanted 252 = .ok (.iload_n 1, 1) := by decide +kernel
theorem d_M_isPlanted_253 : decode b_M_isPlanted 253 = .ok (.imul, 1) := by decide +kernel
theorem d_M_isPlanted_254 : decode b_M_isPlanted 254 = .ok (.iconst 1, 1) := by decide +kernel
theorem d_M_isPlanted_255 : decode b_M_isPlanted 255 = .ok (.isub, 1) := by decide +kernel
theorem d_M_isPlanted_256 : decode b_M_isPlanted 256 = .ok (.iaload, 1) := by decide +kernel
theorem d_M_isPlanted_257 : decode b_M_isPlanted 257 = .ok (.if_icmp .ne 7, 3) := by decide +kernel
theorem d_M_isPlanted_260 : decode b_M_isPlanted 260 = .ok (.iconst 1, 1) := by decide +kernel
theorem d_M_isPlanted_261 : decode b_M_isPlanted 261 = .ok (.goto 4, 3) := by decide +kernel
theorem d_M_isPlanted_264 : decode b_M_isPlanted 264 = .ok (.iconst 0, 1) := by decide +kernel
theorem d_M_isPlanted_265 : decode b_M_isPlanted 265 = .ok (.ireturn, 1) := by decide +kernel
theorem d_M_verdict_0 : decode b_M_verdict 0 = .ok (.aload_n 0, 1) := by decide +kernel
theorem d_M_verdict_1 : decode b_M_verdict 1 = .ok (.iconst 0, 1) := by decide +kernel
theorem d_M_verdict_2 : decode b_M_verdict 2 = .ok (.putfield 28, 3) := by decide +kernel
theorem d_M_verdict_5 : decode b_M_verdict 5 = .ok (.aload_n 0, 1) := by decide +kernel
theorem d_M_verdict_6 : decode b_M_verdict 6 = .ok (.getfield 65, 3) := by decide +kernel
theorem d_M_verdict_9 : decode b_M_verdict 9 = .ok (.ifCond .eq 23, 3) := by decide +kernel
theorem d_M_verdict_12 : decode b_M_verdict 12 = .ok (.iload_n 2, 1) := by decide +kernel
theorem d_M_verdict_13 : decode b_M_verdict 13 = .ok (.ifCond .eq 10, 3) := by decide +kernel
theorem d_M_verdict_16 : decode b_M_verdict 16 = .ok (.aload_n 0, 1) := by decide +kernel
theorem d_M_verdict_17 : decode b_M_verdict 17 = .ok (.getfield 76, 3) := by decide +kernel
theorem d_M_verdict_20 : decode b_M_verdict 20 = .ok (.goto 7, 3) := by decide +kernel
theorem d_M_verdict_23 : decode b_M_verdict 23 = .ok (.aload_n 0, 1) := by decide +kernel
theorem d_M_verdict_24 : decode b_M_verdict 24 = .ok (.getfield 79, 3) := by decide +kernel
theorem d_M_verdict_27 : decode b_M_verdict 27 = .ok (.bipush 6, 2) := by decide +kernel
theorem d_M_verdict_29 : decode b_M_verdict 29 = .ok (.if_icmp .ne 4, 3) := by decide +kernel
theorem d_M_verdict_32 : decode b_M_verdict 32 = .ok (.return_, 1) := by decide +kernel
theorem d_M_verdict_33 : decode b_M_verdict 33 = .ok (.iload_n 2, 1) := by decide +kernel
theorem d_M_verdict_34 : decode b_M_verdict 34 = .ok (.ifCond .eq 31, 3) := by decide +kernel
theorem d_M_verdict_37 : decode b_M_verdict 37 = .ok (.aload_n 0, 1) := by decide +kernel
theorem d_M_verdict_38 : decode b_M_verdict 38 = .ok (.getfield 21, 3) := by decide +kernel
theorem d_M_verdict_41 : decode b_M_verdict 41 = .ok (.aload_n 0, 1) := by decide +kernel
theorem d_M_verdict_42 : decode b_M_verdict 42 = .ok (.getfield 76, 3) := by decide +kernel
theorem d_M_verdict_45 : decode b_M_verdict 45 = .ok (.iload_n 1, 1) := by decide +kernel
theorem d_M_verdict_46 : decode b_M_verdict 46 = .ok (.aload_n 0, 1) := by decide +kernel
theorem d_M_verdict_47 : decode b_M_verdict 47 = .ok (.invokevirtual 82, 3) := by decide +kernel
theorem d_M_verdict_50 : decode b_M_verdict 50 = .ok (.iand, 1) := by decide +kernel
theorem d_M_verdict_51 : decode b_M_verdict 51 = .ok (.iastore, 1) := by decide +kernel
theorem d_M_verdict_52 : decode b_M_verdict 52 = .ok (.aload_n 0, 1) := by decide +kernel
theorem d_M_verdict_53 : decode b_M_verdict 53 = .ok (.dup, 1) := by decide +kernel
theorem d_M_verdict_54 : decode b_M_verdict 54 = .ok (.getfield 76, 3) := by decide +kernel
theorem d_M_verdict_57 : decode b_M_verdict 57 = .ok (.iconst 1, 1) := by decide +kernel
theorem d_M_verdict_58 : decode b_M_verdict 58 = .ok (.iadd, 1) := by decide +kernel
theorem d_M_verdict_59 : decode b_M_verdict 59 = .ok (.putfield 76, 3) := by decide +kernel
theorem d_M_verdict_62 : decode b_M_verdict 62 = .ok (.goto 31, 3) := by decide +kernel
theorem d_M_verdict_65 : decode b_M_verdict 65 = .ok (.aload_n 0, 1) := by decide +kernel
theorem d_M_verdict_66 : decode b_M_verdict 66 = .ok (.getfield 21, 3) := by decide +kernel
theorem d_M_verdict_69 : decode b_M_verdict 69 = .ok (.bipush 6, 2) := by decide +kernel
theorem d_M_verdict_71 : decode b_M_verdict 71 = .ok (.aload_n 0, 1) := by decide +kernel
theorem d_M_verdict_72 : decode b_M_verdict 72 = .ok (.getfield 79, 3) := by decide +kernel
theorem d_M_verdict_75 : decode b_M_verdict 75 = .ok (.iadd, 1) := by decide +kernel
theorem d_M_verdict_76 : decode b_M_verdict 76 = .ok (.iload_n 1, 1) := by decide +kernel
theorem d_M_verdict_77 : decode b_M_verdict 77 = .ok (.aload_n 0, 1) := by decide +kernel
theorem d_M_verdict_78 : decode b_M_verdict 78 = .ok (.invokevirtual 82, 3) := by decide +kernel
theorem d_M_verdict_81 : decode b_M_verdict 81 = .ok (.iand, 1) := by decide +kernel
theorem d_M_verdict_82 : decode b_M_verdict 82 = .ok (.iastore, 1) := by decide +kernel
theorem d_M_verdict_83 : decode b_M_verdict 83 = .ok (.aload_n 0, 1) := by decide +kernel
theorem d_M_verdict_84 : decode b_M_verdict 84 = .ok (.dup, 1) := by decide +kernel
theorem d_M_verdict_85 : decode b_M_verdict 85 = .ok (.getfield 79, 3) := by decide +kernel
theorem d_M_verdict_88 : decode b_M_verdict 88 = .ok (.iconst 1, 1) := by decide +kernel
theorem d_M_verdict_89 : decode b_M_verdict 89 = .ok (.iadd, 1) := by decide +kernel
theorem d_M_verdict_90 : decode b_M_verdict 90 = .ok (.putfield 79, 3) := by decide +kernel
theorem d_M_verdict_93 : decode b_M_verdict 93 = .ok (.return_, 1) := by decide +kernel
theorem d_M_shorter_0 : decode b_M_shorter 0 = .ok (.aload_n 0, 1) := by decide +kernel
theorem d_M_shorter_1 : decode b_M_shorter 1 = .ok (.iconst 0, 1) := by decide +kernel
theorem d_M_shorter_2 : decode b_M_shorter 2 = .ok (.putfield 28, 3) := by decide +kernel
theorem d_M_shorter_5 : decode b_M_shorter 5 = .ok (.aload_n 0, 1) := by decide +kernel
theorem d_M_shorter_6 : decode b_M_shorter 6 = .ok (.aload_n 0, 1) := by decide +kernel
theorem d_M_shorter_7 : decode b_M_shorter 7 = .ok (.invokevirtual 82, 3) := by decide +kernel
theorem d_M_shorter_10 : decode b_M_shorter 10 = .ok (.putfield 86, 3) := by decide +kernel
theorem d_M_shorter_13 : decode b_M_shorter 13 = .ok (.aload_n 0, 1) := by decide +kernel
theorem d_M_shorter_14 : decode b_M_shorter 14 = .ok (.aload_n 0, 1) := by decide +kernel
theorem d_M_shorter_15 : decode b_M_shorter 15 = .ok (.getfield 86, 3) := by decide +kernel
theorem d_M_shorter_18 : decode b_M_shorter 18 = .ok (.invokevirtual 102, 3) := by decide +kernel
theorem d_M_shorter_21 : decode b_M_shorter 21 = .ok (.istore_n 1, 1) := by decide +kernel
theorem d_M_shorter_22 : decode b_M_shorter 22 = .ok (.iload_n 1, 1) := by decide +kernel
theorem d_M_shorter_23 : decode b_M_shorter 23 = .ok (.ifCond .eq 72, 3) := by decide +kernel
theorem d_M_shorter_26 : decode b_M_shorter 26 = .ok (.iconst 0, 1) := by decide +kernel
theorem d_M_shorter_27 : decode b_M_shorter 27 = .ok (.istore_n 1, 1) := by decide +kernel
theorem d_M_shorter_28 : decode b_M_shorter 28 = .ok (.aload_n 0, 1) := by decide +kernel
theorem d_M_shorter_29 : decode b_M_shorter 29 = .ok (.getfield 65, 3) := by decide +kernel
theorem d_M_shorter_32 : decode b_M_shorter 32 = .ok (.iconst 1, 1) := by decide +kernel
theorem d_M_shorter_33 : decode b_M_shorter 33 = .ok (.isub, 1) := by decide +kernel
theorem d_M_shorter_34 : decode b_M_shorter 34 = .ok (.istore_n 2, 1) := by decide +kernel
theorem d_M_shorter_35 : decode b_M_shorter 35 = .ok (.iload_n 2, 1) := by decide +kernel
theorem d_M_shorter_36 : decode b_M_shorter 36 = .ok (.ifCond .lt 56, 3) := by decide +kernel
theorem d_M_shorter_39 : decode b_M_shorter 39 = .ok (.aload_n 0, 1) := by decide +kernel
theorem d_M_shorter_40 : decode b_M_shorter 40 = .ok (.getfield 86, 3) := by decide +kernel
theorem d_M_shorter_43 : decode b_M_shorter 43 = .ok (.iload_n 2, 1) := by decide +kernel
theorem d_M_shorter_44 : decode b_M_shorter 44 = .ok (.ishr, 1) := by decide +kernel
theorem d_M_shorter_45 : decode b_M_shorter 45 = .ok (.iconst 1, 1) := by decide +kernel
theorem d_M_shorter_46 : decode b_M_shorter 46 = .ok (.iand, 1) := by decide +kernel
theorem d_M_shorter_47 : decode b_M_shorter 47 = .ok (.ifCond .eq 39, 3) := by decide +kernel
theorem d_M_shorter_50 : decode b_M_shorter 50 = .ok (.aload_n 0, 1) := by decide +kernel
theorem d_M_shorter_51 : decode b_M_shorter 51 = .ok (.aload_n 0, 1) := by decide +kernel
theorem d_M_shorter_52 : decode b_M_shorter 52 = .ok (.getfield 86, 3) := by decide +kernel
theorem d_M_shorter_55 : decode b_M_shorter 55 = .ok (.iconst 1, 1) := by decide +kernel
theorem d_M_shorter_56 : decode b_M_shorter 56 = .ok (.iload_n 2, 1) := by decide +kernel
theorem d_M_shorter_57 : decode b_M_shorter 57 = .ok (.ishl, 1) := by decide +kernel
theorem d_M_shorter_58 : decode b_M_shorter 58 = .ok (.iconst (-1), 1) := by decide +kernel
theorem d_M_shorter_59 : decode b_M_shorter 59 = .ok (.ixor, 1) := by decide +kernel
theorem d_M_shorter_60 : decode b_M_shorter 60 = .ok (.iand, 1) := by decide +kernel
theorem d_M_shorter_61 : decode b_M_shorter 61 = .ok (.invokevirtual 102, 3) := by decide +kernel
theorem d_M_shorter_64 : decode b_M_shorter 64 = .ok (.ifCond .ne 6, 3) := by decide +kernel
theorem d_M_shorter_67 : decode b_M_shorter 67 = .ok (.goto 19, 3) := by decide +kernel
theorem d_M_shorter_70 : decode b_M_shorter 70 = .ok (.aload_n 0, 1) := by decide +kernel
theorem d_M_shorter_71 : decode b_M_shorter 71 = .ok (.dup, 1) := by decide +kernel
theorem d_M_shorter_72 : decode b_M_shorter 72 = .ok (.getfield 86, 3) := by decide +kernel
theorem d_M_shorter_75 : decode b_M_shorter 75 = .ok (.iconst 1, 1) := by decide +kernel
theorem d_M_shorter_76 : decode b_M_shorter 76 = .ok (.iload_n 2, 1) := by decide +kernel
theorem d_M_shorter_77 : decode b_M_shorter 77 = .ok (.ishl, 1) := by decide +kernel
theorem d_M_shorter_78 : decode b_M_shorter 78 = .ok (.iconst (-1), 1) := by decide +kernel
theorem d_M_shorter_79 : decode b_M_shorter 79 = .ok (.ixor, 1) := by decide +kernel
theorem d_M_shorter_80 : decode b_M_shorter 80 = .ok (.iand, 1) := by decide +kernel
theorem d_M_shorter_81 : decode b_M_shorter 81 = .ok (.putfield 86, 3) := by decide +kernel
theorem d_M_shorter_84 : decode b_M_shorter 84 = .ok (.iconst 1, 1) := by decide +kernel
theorem d_M_shorter_85 : decode b_M_shorter 85 = .ok (.istore_n 1, 1) := by decide +kernel
theorem d_M_shorter_86 : decode b_M_shorter 86 = .ok (.iinc 2 (-1), 3) := by decide +kernel
theorem d_M_shorter_89 : decode b_M_shorter 89 = .ok (.goto (-54), 3) := by decide +kernel
theorem d_M_shorter_92 : decode b_M_shorter 92 = .ok (.goto (-70), 3) := by decide +kernel
theorem d_M_shorter_95 : decode b_M_shorter 95 = .ok (.aload_n 0, 1) := by decide +kernel
theorem d_M_shorter_96 : decode b_M_shorter 96 = .ok (.getfield 86, 3) := by decide +kernel
theorem d_M_shorter_99 : decode b_M_shorter 99 = .ok (.invokestatic 105, 3) := by decide +kernel
theorem d_M_shorter_102 : decode b_M_shorter 102 = .ok (.ireturn, 1) := by decide +kernel
theorem d_M_stays_0 : decode b_M_stays 0 = .ok (.iconst 0, 1) := by decide +kernel
theorem d_M_stays_1 : decode b_M_stays 1 = .ok (.istore_n 2, 1) := by decide +kernel
theorem d_M_stays_2 : decode b_M_stays 2 = .ok (.iconst 0, 1) := by decide +kernel
theorem d_M_stays_3 : decode b_M_stays 3 = .ok (.istore_n 3, 1) := by decide +kernel
theorem d_M_stays_4 : decode b_M_stays 4 = .ok (.iload_n 3, 1) := by decide +kernel
theorem d_M_stays_5 : decode b_M_stays 5 = .ok (.aload_n 0, 1) := by decide +kernel
theorem d_M_stays_6 : decode b_M_stays 6 = .ok (.getfield 76, 3) := by decide +kernel
theorem d_M_stays_9 : decode b_M_stays 9 = .ok (.if_icmp .ge 32, 3) := by decide +kernel
theorem d_M_stays_12 : decode b_M_stays 12 = .ok (.iload_n 2, 1) := by decide +kernel
theorem d_M_stays_13 : decode b_M_stays 13 = .ok (.ifCond .ne 16, 3) := by decide +kernel
theorem d_M_stays_16 : decode b_M_stays 16 = .ok (.aload_n 0, 1) := by decide +kernel
theorem d_M_stays_17 : decode b_M_stays 17 = .ok (.getfield 21, 3) := by decide +kernel
theorem d_M_stays_20 : decode b_M_stays 20 = .ok (.iload_n 3, 1) := by decide +kernel
theorem d_M_stays_21 : decode b_M_stays 21 = .ok (.iaload, 1) := by decide +kernel
theorem d_M_stays_22 : decode b_M_stays 22 = .ok (.iload_n 1, 1) := by decide +kernel
theorem d_M_stays_23 : decode b_M_stays 23 = .ok (.iconst (-1), 1) := by decide +kernel
theorem d_M_stays_24 : decode b_M_stays 24 = .ok (.ixor, 1) := by decide +kernel
theorem d_M_stays_25 : decode b_M_stays 25 = .ok (.iand, 1) := by decide +kernel
theorem d_M_stays_26 : decode b_M_stays 26 = .ok (.ifCond .ne 7, 3) := by decide +kernel
theorem d_M_stays_29 : decode b_M_stays 29 = .ok (.iconst 1, 1) := by decide +kernel
theorem d_M_stays_30 : decode b_M_stays 30 = .ok (.goto 4, 3) := by decide +kernel
theorem d_M_stays_33 : decode b_M_stays 33 = .ok (.iconst 0, 1) := by decide +kernel
theorem d_M_stays_34 : decode b_M_stays 34 = .ok (.istore_n 2, 1) := by decide +kernel
theorem d_M_stays_35 : decode b_M_stays 35 = .ok (.iinc 3 1, 3) := by decide +kernel
theorem d_M_stays_38 : decode b_M_stays 38 = .ok (.goto (-34), 3) := by decide +kernel
theorem d_M_stays_41 : decode b_M_stays 41 = .ok (.iconst 0, 1) := by decide +kernel
theorem d_M_stays_42 : decode b_M_stays 42 = .ok (.istore_n 3, 1) := by decide +kernel
theorem d_M_stays_43 : decode b_M_stays 43 = .ok (.iload_n 3, 1) := by decide +kernel
theorem d_M_stays_44 : decode b_M_stays 44 = .ok (.aload_n 0, 1) := by decide +kernel
theorem d_M_stays_45 : decode b_M_stays 45 = .ok (.getfield 79, 3) := by decide +kernel
theorem d_M_stays_48 : decode b_M_stays 48 = .ok (.if_icmp .ge 51, 3) := by decide +kernel
theorem d_M_stays_51 : decode b_M_stays 51 = .ok (.aload_n 0, 1) := by decide +kernel
theorem d_M_stays_52 : decode b_M_stays 52 = .ok (.getfield 21, 3) := by decide +kernel
theorem d_M_stays_55 : decode b_M_stays 55 = .ok (.bipush 6, 2) := by decide +kernel
theorem d_M_stays_57 : decode b_M_stays 57 = .ok (.iload_n 3, 1) := by decide +kernel
theorem d_M_stays_58 : decode b_M_stays 58 = .ok (.iadd, 1) := by decide +kernel
theorem d_M_stays_59 : decode b_M_stays 59 = .ok (.iaload, 1) := by decide +kernel
theorem d_M_stays_60 : decode b_M_stays 60 = .ok (.iload_n 1, 1) := by decide +kernel
theorem d_M_stays_61 : decode b_M_stays 61 = .ok (.iand, 1) := by decide +kernel
theorem d_M_stays_62 : decode b_M_stays 62 = .ok (.istore 4, 2) := by decide +kernel
theorem d_M_stays_64 : decode b_M_stays 64 = .ok (.iload_n 2, 1) := by decide +kernel
theorem d_M_stays_65 : decode b_M_stays 65 = .ok (.ifCond .eq 26, 3) := by decide +kernel
theorem d_M_stays_68 : decode b_M_stays 68 = .ok (.iload 4, 2) := by decide +kernel
theorem d_M_stays_70 : decode b_M_stays 70 = .ok (.ifCond .eq 17, 3) := by decide +kernel
theorem d_M_stays_73 : decode b_M_stays 73 = .ok (.iload 4, 2) := by decide +kernel
theorem d_M_stays_75 : decode b_M_stays 75 = .ok (.aload_n 0, 1) := by decide +kernel
theorem d_M_stays_76 : decode b_M_stays 76 = .ok (.getfield 21, 3) := by decide +kernel
theorem d_M_stays_79 : decode b_M_stays 79 = .ok (.bipush 6, 2) := by decide +kernel
theorem d_M_stays_81 : decode b_M_stays 81 = .ok (.iload_n 3, 1) := by decide +kernel
theorem d_M_stays_82 : decode b_M_stays 82 = .ok (.iadd, 1) := by decide +kernel
theorem d_M_stays_83 : decode b_M_stays 83 = .ok (.iaload, 1) := by decide +kernel
theorem d_M_stays_84 : decode b_M_stays 84 = .ok (.if_icmp .ne 7, 3) := by decide +kernel
theorem d_M_stays_87 : decode b_M_stays 87 = .ok (.iconst 1, 1) := by decide +kernel
theorem d_M_stays_88 : decode b_M_stays 88 = .ok (.goto 4, 3) := by decide +kernel
theorem d_M_stays_91 : decode b_M_stays 91 = .ok (.iconst 0, 1) := by decide +kernel
theorem d_M_stays_92 : decode b_M_stays 92 = .ok (.istore_n 2, 1) := by decide +kernel
theorem d_M_stays_93 : decode b_M_stays 93 = .ok (.iinc 3 1, 3) := by decide +kernel
theorem d_M_stays_96 : decode b_M_stays 96 = .ok (.goto (-53), 3) := by decide +kernel
theorem d_M_stays_99 : decode b_M_stays 99 = .ok (.iload_n 2, 1) := by decide +kernel
theorem d_M_stays_100 : decode b_M_stays 100 = .ok (.ireturn, 1) := by decide +kernel
theorem d_M_count_0 : decode b_M_count 0 = .ok (.iconst 0, 1) := by decide +kernel
theorem d_M_count_1 : decode b_M_count 1 = .ok (.istore_n 1, 1) := by decide +kernel
theorem d_M_count_2 : decode b_M_count 2 = .ok (.iconst 0, 1) := by decide +kernel
theorem d_M_count_3 : decode b_M_count 3 = .ok (.istore_n 2, 1) := by decide +kernel
theorem d_M_count_4 : decode b_M_count 4 = .ok (.iload_n 2, 1) := by decide +kernel
theorem d_M_count_5 : decode b_M_count 5 = .ok (.bipush 21, 2) := by decide +kernel
theorem d_M_count_7 : decode b_M_count 7 = .ok (.if_icmp .ge 17, 3) := by decide +kernel
theorem d_M_count_10 : decode b_M_count 10 = .ok (.iload_n 1, 1) := by decide +kernel
theorem d_M_count_11 : decode b_M_count 11 = .ok (.iload_n 0, 1) := by decide +kernel
theorem d_M_count_12 : decode b_M_count 12 = .ok (.iload_n 2, 1) := by decide +kernel
theorem d_M_count_13 : decode b_M_count 13 = .ok (.ishr, 1) := by decide +kernel
theorem d_M_count_14 : decode b_M_count 14 = .ok (.iconst 1, 1) := by decide +kernel
theorem d_M_count_15 : decode b_M_count 15 = .ok (.iand, 1) := by decide +kernel
theorem d_M_count_16 : decode b_M_count 16 = .ok (.iadd, 1) := by decide +kernel
theorem d_M_count_17 : decode b_M_count 17 = .ok (.istore_n 1, 1) := by decide +kernel
theorem d_M_count_18 : decode b_M_count 18 = .ok (.iinc 2 1, 3) := by decide +kernel
theorem d_M_count_21 : decode b_M_count 21 = .ok (.goto (-17), 3) := by decide +kernel
theorem d_M_count_24 : decode b_M_count 24 = .ok (.iload_n 1, 1) := by decide +kernel
theorem d_M_count_25 : decode b_M_count 25 = .ok (.ireturn, 1) := by decide +kernel
theorem d_M_left_0 : decode b_M_left 0 = .ok (.aload_n 0, 1) := by decide +kernel
theorem d_M_left_1 : decode b_M_left 1 = .ok (.iconst 0, 1) := by decide +kernel
theorem d_M_left_2 : decode b_M_left 2 = .ok (.putfield 28, 3) := by decide +kernel
theorem d_M_left_5 : decode b_M_left 5 = .ok (.iconst 0, 1) := by decide +kernel
theorem d_M_left_6 : decode b_M_left 6 = .ok (.istore_n 2, 1) := by decide +kernel
theorem d_M_left_7 : decode b_M_left 7 = .ok (.iconst 0, 1) := by decide +kernel
theorem d_M_left_8 : decode b_M_left 8 = .ok (.istore_n 3, 1) := by decide +kernel
theorem d_M_left_9 : decode b_M_left 9 = .ok (.iload_n 3, 1) := by decide +kernel
theorem d_M_left_10 : decode b_M_left 10 = .ok (.aload_n 0, 1) := by decide +kernel
theorem d_M_left_11 : decode b_M_left 11 = .ok (.getfield 65, 3) := by decide +kernel
theorem d_M_left_14 : decode b_M_left 14 = .ok (.if_icmp .ge 33, 3) := by decide +kernel
theorem d_M_left_17 : decode b_M_left 17 = .ok (.aload_n 0, 1) := by decide +kernel
theorem d_M_left_18 : decode b_M_left 18 = .ok (.getfield 86, 3) := by decide +kernel
theorem d_M_left_21 : decode b_M_left 21 = .ok (.iload_n 3, 1) := by decide +kernel
theorem d_M_left_22 : decode b_M_left 22 = .ok (.ishr, 1) := by decide +kernel
theorem d_M_left_23 : decode b_M_left 23 = .ok (.iconst 1, 1) := by decide +kernel
theorem d_M_left_24 : decode b_M_left 24 = .ok (.iand, 1) := by decide +kernel
theorem d_M_left_25 : decode b_M_left 25 = .ok (.ifCond .ne 6, 3) := by decide +kernel
theorem d_M_left_28 : decode b_M_left 28 = .ok (.goto 13, 3) := by decide +kernel
theorem d_M_left_31 : decode b_M_left 31 = .ok (.iload_n 2, 1) := by decide +kernel
theorem d_M_left_32 : decode b_M_left 32 = .ok (.iload_n 1, 1) := by decide +kernel
theorem d_M_left_33 : decode b_M_left 33 = .ok (.if_icmp .ne 5, 3) := by decide +kernel
theorem d_M_left_36 : decode b_M_left 36 = .ok (.iload_n 3, 1) := by decide +kernel
theorem d_M_left_37 : decode b_M_left 37 = .ok (.ireturn, 1) := by decide +kernel
theorem d_M_left_38 : decode b_M_left 38 = .ok (.iinc 2 1, 3) := by decide +kernel
theorem d_M_left_41 : decode b_M_left 41 = .ok (.iinc 3 1, 3) := by decide +kernel
theorem d_M_left_44 : decode b_M_left 44 = .ok (.goto (-35), 3) := by decide +kernel
theorem d_M_left_47 : decode b_M_left 47 = .ok (.iconst (-1), 1) := by decide +kernel
theorem d_M_left_48 : decode b_M_left 48 = .ok (.ireturn, 1) := by decide +kernel
theorem d_M_minimal_0 : decode b_M_minimal 0 = .ok (.aload_n 0, 1) := by decide +kernel
theorem d_M_minimal_1 : decode b_M_minimal 1 = .ok (.iconst 0, 1) := by decide +kernel
theorem d_M_minimal_2 : decode b_M_minimal 2 = .ok (.putfield 28, 3) := by decide +kernel
theorem d_M_minimal_5 : decode b_M_minimal 5 = .ok (.aload_n 0, 1) := by decide +kernel
theorem d_M_minimal_6 : decode b_M_minimal 6 = .ok (.aload_n 0, 1) := by decide +kernel
theorem d_M_minimal_7 : decode b_M_minimal 7 = .ok (.getfield 86, 3) := by decide +kernel
theorem d_M_minimal_10 : decode b_M_minimal 10 = .ok (.invokevirtual 102, 3) := by decide +kernel
theorem d_M_minimal_13 : decode b_M_minimal 13 = .ok (.istore_n 1, 1) := by decide +kernel
theorem d_M_minimal_14 : decode b_M_minimal 14 = .ok (.iconst 0, 1) := by decide +kernel
theorem d_M_minimal_15 : decode b_M_minimal 15 = .ok (.istore_n 2, 1) := by decide +kernel
theorem d_M_minimal_16 : decode b_M_minimal 16 = .ok (.iload_n 2, 1) := by decide +kernel
theorem d_M_minimal_17 : decode b_M_minimal 17 = .ok (.aload_n 0, 1) := by decide +kernel
theorem d_M_minimal_18 : decode b_M_minimal 18 = .ok (.getfield 65, 3) := by decide +kernel
theorem d_M_minimal_21 : decode b_M_minimal 21 = .ok (.if_icmp .ge 47, 3) := by decide +kernel
theorem d_M_minimal_24 : decode b_M_minimal 24 = .ok (.iload_n 1, 1) := by decide +kernel
theorem d_M_minimal_25 : decode b_M_minimal 25 = .ok (.ifCond .eq 35, 3) := by decide +kernel
theorem d_M_minimal_28 : decode b_M_minimal 28 = .ok (.aload_n 0, 1) := by decide +kernel
theorem d_M_minimal_29 : decode b_M_minimal 29 = .ok (.getfield 86, 3) := by decide +kernel
theorem d_M_minimal_32 : decode b_M_minimal 32 = .ok (.iload_n 2, 1) := by decide +kernel
theorem d_M_minimal_33 : decode b_M_minimal 33 = .ok (.ishr, 1) := by decide +kernel
theorem d_M_minimal_34 : decode b_M_minimal 34 = .ok (.iconst 1, 1) := by decide +kernel
theorem d_M_minimal_35 : decode b_M_minimal 35 = .ok (.iand, 1) := by decide +kernel
theorem d_M_minimal_36 : decode b_M_minimal 36 = .ok (.ifCond .eq 20, 3) := by decide +kernel
theorem d_M_minimal_39 : decode b_M_minimal 39 = .ok (.aload_n 0, 1) := by decide +kernel
theorem d_M_minimal_40 : decode b_M_minimal 40 = .ok (.aload_n 0, 1) := by decide +kernel
theorem d_M_minimal_41 : decode b_M_minimal 41 = .ok (.getfield 86, 3) := by decide +kernel
theorem d_M_minimal_44 : decode b_M_minimal 44 = .ok (.iconst 1, 1) := by decide +kernel
theorem d_M_minimal_45 : decode b_M_minimal 45 = .ok (.iload_n 2, 1) := by decide +kernel
theorem d_M_minimal_46 : decode b_M_minimal 46 = .ok (.ishl, 1) := by decide +kernel
theorem d_M_minimal_47 : decode b_M_minimal 47 = .ok (.iconst (-1), 1) := by decide +kernel
theorem d_M_minimal_48 : decode b_M_minimal 48 = .ok (.ixor, 1) := by decide +kernel
theorem d_M_minimal_49 : decode b_M_minimal 49 = .ok (.iand, 1) := by decide +kernel
theorem d_M_minimal_50 : decode b_M_minimal 50 = .ok (.invokevirtual 102, 3) := by decide +kernel
theorem d_M_minimal_53 : decode b_M_minimal 53 = .ok (.ifCond .ne 7, 3) := by decide +kernel
theorem d_M_minimal_56 : decode b_M_minimal 56 = .ok (.iconst 1, 1) := by decide +kernel
theorem d_M_minimal_57 : decode b_M_minimal 57 = .ok (.goto 4, 3) := by decide +kernel
theorem d_M_minimal_60 : decode b_M_minimal 60 = .ok (.iconst 0, 1) := by decide +kernel
theorem d_M_minimal_61 : decode b_M_minimal 61 = .ok (.istore_n 1, 1) := by decide +kernel
theorem d_M_minimal_62 : decode b_M_minimal 62 = .ok (.iinc 2 1, 3) := by decide +kernel
theorem d_M_minimal_65 : decode b_M_minimal 65 = .ok (.goto (-49), 3) := by decide +kernel
theorem d_M_minimal_68 : decode b_M_minimal 68 = .ok (.iload_n 1, 1) := by decide +kernel
theorem d_M_minimal_69 : decode b_M_minimal 69 = .ok (.ireturn, 1) := by decide +kernel
theorem d_M_same_0 : decode b_M_same 0 = .ok (.aload_n 0, 1) := by decide +kernel
theorem d_M_same_1 : decode b_M_same 1 = .ok (.iconst 0, 1) := by decide +kernel
theorem d_M_same_2 : decode b_M_same 2 = .ok (.putfield 28, 3) := by decide +kernel
theorem d_M_same_5 : decode b_M_same 5 = .ok (.iload_n 3, 1) := by decide +kernel
theorem d_M_same_6 : decode b_M_same 6 = .ok (.iload 4, 2) := by decide +kernel
theorem d_M_same_8 : decode b_M_same 8 = .ok (.invokestatic 68, 3) := by decide +kernel
theorem d_M_same_11 : decode b_M_same 11 = .ok (.ifCond .ne 5, 3) := by decide +kernel
theorem d_M_same_14 : decode b_M_same 14 = .ok (.iconst 0, 1) := by decide +kernel
theorem d_M_same_15 : decode b_M_same 15 = .ok (.ireturn, 1) := by decide +kernel
theorem d_M_same_16 : decode b_M_same 16 = .ok (.aload_n 0, 1) := by decide +kernel
theorem d_M_same_17 : decode b_M_same 17 = .ok (.iconst 1, 1) := by decide +kernel
theorem d_M_same_18 : decode b_M_same 18 = .ok (.aload_n 0, 1) := by decide +kernel
theorem d_M_same_19 : decode b_M_same 19 = .ok (.getfield 24, 3) := by decide +kernel
theorem d_M_same_22 : decode b_M_same 22 = .ok (.iload_n 3, 1) := by decide +kernel
theorem d_M_same_23 : decode b_M_same 23 = .ok (.iload 4, 2) := by decide +kernel
theorem d_M_same_25 : decode b_M_same 25 = .ok (.invokevirtual 72, 3) := by decide +kernel
theorem d_M_same_28 : decode b_M_same 28 = .ok (.aload_n 0, 1) := by decide +kernel
theorem d_M_same_29 : decode b_M_same 29 = .ok (.iconst 2, 1) := by decide +kernel
theorem d_M_same_30 : decode b_M_same 30 = .ok (.lload_n 1, 1) := by decide +kernel
theorem d_M_same_31 : decode b_M_same 31 = .ok (.iload_n 3, 1) := by decide +kernel
theorem d_M_same_32 : decode b_M_same 32 = .ok (.iload 4, 2) := by decide +kernel
theorem d_M_same_34 : decode b_M_same 34 = .ok (.invokevirtual 72, 3) := by decide +kernel
theorem d_M_same_37 : decode b_M_same 37 = .ok (.iconst 1, 1) := by decide +kernel
theorem d_M_same_38 : decode b_M_same 38 = .ok (.istore 5, 2) := by decide +kernel
theorem d_M_same_40 : decode b_M_same 40 = .ok (.iconst 0, 1) := by decide +kernel
theorem d_M_same_41 : decode b_M_same 41 = .ok (.istore 6, 2) := by decide +kernel
theorem d_M_same_43 : decode b_M_same 43 = .ok (.iload 6, 2) := by decide +kernel
theorem d_M_same_45 : decode b_M_same 45 = .ok (.iconst 3, 1) := by decide +kernel
theorem d_M_same_46 : decode b_M_same 46 = .ok (.iload 4, 2) := by decide +kernel
theorem d_M_same_48 : decode b_M_same 48 = .ok (.imul, 1) := by decide +kernel
theorem d_M_same_49 : decode b_M_same 49 = .ok (.iconst 3, 1) := by decide +kernel
theorem d_M_same_50 : decode b_M_same 50 = .ok (.iadd, 1) := by decide +kernel
theorem d_M_same_51 : decode b_M_same 51 = .ok (.if_icmp .ge 44, 3) := by decide +kernel
theorem d_M_same_54 : decode b_M_same 54 = .ok (.iload 5, 2) := by decide +kernel
theorem d_M_same_56 : decode b_M_same 56 = .ok (.ifCond .eq 30, 3) := by decide +kernel
theorem d_M_same_59 : decode b_M_same 59 = .ok (.aload_n 0, 1) := by decide +kernel
theorem d_M_same_60 : decode b_M_same 60 = .ok (.getfield 13, 3) := by decide +kernel
theorem d_M_same_63 : decode b_M_same 63 = .ok (.bipush 63, 2) := by decide +kernel
theorem d_M_same_65 : decode b_M_same 65 = .ok (.iload 6, 2) := by decide +kernel
theorem d_M_same_67 : decode b_M_same 67 = .ok (.iadd, 1) := by decide +kernel
theorem d_M_same_68 : decode b_M_same 68 = .ok (.iaload, 1) := by decide +kernel
theorem d_M_same_69 : decode b_M_same 69 = .ok (.aload_n 0, 1) := by decide +kernel
theorem d_M_same_70 : decode b_M_same 70 = .ok (.getfield 13, 3) := by decide +kernel
theorem d_M_same_73 : decode b_M_same 73 = .ok (.bipush 126, 2) := by decide +kernel
theorem d_M_same_75 : decode b_M_same 75 = .ok (.iload 6, 2) := by decide +kernel
theorem d_M_same_77 : decode b_M_same 77 = .ok (.iadd, 1) := by decide +kernel
theorem d_M_same_78 : decode b_M_same 78 = .ok (.iaload, 1) := by decide +kernel
theorem d_M_same_79 : decode b_M_same 79 = .ok (.if_icmp .ne 7, 3) := by decide +kernel
theorem d_M_same_82 : decode b_M_same 82 = .ok (.iconst 1, 1) := by decide +kernel
theorem d_M_same_83 : decode b_M_same 83 = .ok (.goto 4, 3) := by decide +kernel
theorem d_M_same_86 : decode b_M_same 86 = .ok (.iconst 0, 1) := by decide +kernel
theorem d_M_same_87 : decode b_M_same 87 = .ok (.istore 5, 2) := by decide +kernel
theorem d_M_same_89 : decode b_M_same 89 = .ok (.iinc 6 1, 3) := by decide +kernel
theorem d_M_same_92 : decode b_M_same 92 = .ok (.goto (-49), 3) := by decide +kernel
theorem d_M_same_95 : decode b_M_same 95 = .ok (.iconst 0, 1) := by decide +kernel
theorem d_M_same_96 : decode b_M_same 96 = .ok (.istore 6, 2) := by decide +kernel
theorem d_M_same_98 : decode b_M_same 98 = .ok (.iload 6, 2) := by decide +kernel
theorem d_M_same_100 : decode b_M_same 100 = .ok (.iload 4, 2) := by decide +kernel
theorem d_M_same_102 : decode b_M_same 102 = .ok (.if_icmp .gt 87, 3) := by decide +kernel
theorem d_M_same_105 : decode b_M_same 105 = .ok (.iload_n 3, 1) := by decide +kernel
theorem d_M_same_106 : decode b_M_same 106 = .ok (.ifCond .ne 83, 3) := by decide +kernel
theorem d_M_same_109 : decode b_M_same 109 = .ok (.iconst 0, 1) := by decide +kernel
theorem d_M_same_110 : decode b_M_same 110 = .ok (.istore 7, 2) := by decide +kernel
theorem d_M_same_112 : decode b_M_same 112 = .ok (.iload 7, 2) := by decide +kernel
theorem d_M_same_114 : decode b_M_same 114 = .ok (.aload_n 0, 1) := by decide +kernel
theorem d_M_same_115 : decode b_M_same 115 = .ok (.getfield 13, 3) := by decide +kernel
theorem d_M_same_118 : decode b_M_same 118 = .ok (.bipush 63, 2) := by decide +kernel
theorem d_M_same_120 : decode b_M_same 120 = .ok (.iconst 3, 1) := by decide +kernel
theorem d_M_same_121 : decode b_M_same 121 = .ok (.iload 6, 2) := by decide +kernel
theorem d_M_same_123 : decode b_M_same 123 = .ok (.imul, 1) := by decide +kernel
theorem d_M_same_124 : decode b_M_same 124 = .ok (.iadd, 1) := by decide +kernel
theorem d_M_same_125 : decode b_M_same 125 = .ok (.iaload, 1) := by decide +kernel
theorem d_M_same_126 : decode b_M_same 126 = .ok (.if_icmp .ge 57, 3) := by decide +kernel
theorem d_M_same_129 : decode b_M_same 129 = .ok (.iload 5, 2) := by decide +kernel
theorem d_M_same_131 : decode b_M_same 131 = .ok (.ifCond .eq 52, 3) := by decide +kernel
theorem d_M_same_134 : decode b_M_same 134 = .ok (.aload_n 0, 1) := by decide +kernel
theorem d_M_same_135 : decode b_M_same 135 = .ok (.getfield 17, 3) := by decide +kernel
theorem d_M_same_138 : decode b_M_same 138 = .ok (.bipush 126, 2) := by decide +kernel
theorem d_M_same_140 : decode b_M_same 140 = .ok (.bipush 6, 2) := by decide +kernel
theorem d_M_same_142 : decode b_M_same 142 = .ok (.iload 6, 2) := by decide +kernel
theorem d_M_same_144 : decode b_M_same 144 = .ok (.imul, 1) := by decide +kernel
theorem d_M_same_145 : decode b_M_same 145 = .ok (.iadd, 1) := by decide +kernel
theorem d_M_same_146 : decode b_M_same 146 = .ok (.iload 7, 2) := by decide +kernel
theorem d_M_same_148 : decode b_M_same 148 = .ok (.iadd, 1) := by decide +kernel
theorem d_M_same_149 : decode b_M_same 149 = .ok (.baload, 1) := by decide +kernel
theorem d_M_same_150 : decode b_M_same 150 = .ok (.aload_n 0, 1) := by decide +kernel
theorem d_M_same_151 : decode b_M_same 151 = .ok (.getfield 17, 3) := by decide +kernel
theorem d_M_same_154 : decode b_M_same 154 = .ok (.sipush 252, 3) := by decide +kernel
theorem d_M_same_157 : decode b_M_same 157 = .ok (.bipush 6, 2) := by decide +kernel
theorem d_M_same_159 : decode b_M_same 159 = .ok (.iload 6, 2) := by decide +kernel
theorem d_M_same_161 : decode b_M_same 161 = .ok (.imul, 1) := by decide +kernel
theorem d_M_same_162 : decode b_M_same 162 = .ok (.iadd, 1) := by decide +kernel
theorem d_M_same_163 : decode b_M_same 163 = .ok (.iload 7, 2) := by decide +kernel
theorem d_M_same_165 : decode b_M_same 165 = .ok (.iadd, 1) := by decide +kernel
theorem d_M_same_166 : decode b_M_same 166 = .ok (.baload, 1) := by decide +kernel
theorem d_M_same_167 : decode b_M_same 167 = .ok (.if_icmp .ne 7, 3) := by decide +kernel
theorem d_M_same_170 : decode b_M_same 170 = .ok (.iconst 1, 1) := by decide +kernel
theorem d_M_same_171 : decode b_M_same 171 = .ok (.goto 4, 3) := by decide +kernel
theorem d_M_same_174 : decode b_M_same 174 = .ok (.iconst 0, 1) := by decide +kernel
theorem d_M_same_175 : decode b_M_same 175 = .ok (.istore 5, 2) := by decide +kernel
theorem d_M_same_177 : decode b_M_same 177 = .ok (.iinc 7 1, 3) := by decide +kernel
theorem d_M_same_180 : decode b_M_same 180 = .ok (.goto (-68), 3) := by decide +kernel
theorem d_M_same_183 : decode b_M_same 183 = .ok (.iinc 6 1, 3) := by decide +kernel
theorem d_M_same_186 : decode b_M_same 186 = .ok (.goto (-88), 3) := by decide +kernel
theorem d_M_same_189 : decode b_M_same 189 = .ok (.iload 5, 2) := by decide +kernel
theorem d_M_same_191 : decode b_M_same 191 = .ok (.ireturn, 1) := by decide +kernel
theorem d_L_law_0 : decode code 0 = .ok (.new 7, 3) := by decide +kernel
theorem d_L_law_3 : decode code 3 = .ok (.dup, 1) := by decide +kernel
theorem d_L_law_4 : decode code 4 = .ok (.aload_n 0, 1) := by decide +kernel
theorem d_L_law_5 : decode code 5 = .ok (.iconst 0, 1) := by decide +kernel
theorem d_L_law_6 : decode code 6 = .ok (.invokestatic 9, 3) := by decide +kernel
theorem d_L_law_9 : decode code 9 = .ok (.i2l, 1) := by decide +kernel
theorem d_L_law_10 : decode code 10 = .ok (.invokespecial 15, 3) := by decide +kernel
theorem d_L_law_13 : decode code 13 = .ok (.astore_n 1, 1) := by decide +kernel
theorem d_L_law_14 : decode code 14 = .ok (.new 18, 3) := by decide +kernel
theorem d_L_law_17 : decode code 17 = .ok (.dup, 1) := by decide +kernel
theorem d_L_law_18 : decode code 18 = .ok (.aload_n 0, 1) := by decide +kernel
theorem d_L_law_19 : decode code 19 = .ok (.iconst 0, 1) := by decide +kernel
theorem d_L_law_20 : decode code 20 = .ok (.invokestatic 9, 3) := by decide +kernel
theorem d_L_law_23 : decode code 23 = .ok (.i2l, 1) := by decide +kernel
theorem d_L_law_24 : decode code 24 = .ok (.invokespecial 20, 3) := by decide +kernel
theorem d_L_law_27 : decode code 27 = .ok (.astore_n 2, 1) := by decide +kernel
theorem d_L_law_28 : decode code 28 = .ok (.iconst 1, 1) := by decide +kernel
theorem d_L_law_29 : decode code 29 = .ok (.istore_n 3, 1) := by decide +kernel
theorem d_L_law_30 : decode code 30 = .ok (.iload_n 3, 1) := by decide +kernel
theorem d_L_law_31 : decode code 31 = .ok (.aload_n 0, 1) := by decide +kernel
theorem d_L_law_32 : decode code 32 = .ok (.arraylength, 1) := by decide +kernel
theorem d_L_law_33 : decode code 33 = .ok (.iconst 5, 1) := by decide +kernel
theorem d_L_law_34 : decode code 34 = .ok (.isub, 1) := by decide +kernel
theorem d_L_law_35 : decode code 35 = .ok (.if_icmp .gt 402, 3) := by decide +kernel
theorem d_L_law_38 : decode code 38 = .ok (.aload_n 0, 1) := by decide +kernel
theorem d_L_law_39 : decode code 39 = .ok (.iload_n 3, 1) := by decide +kernel
theorem d_L_law_40 : decode code 40 = .ok (.iaload, 1) := by decide +kernel
theorem d_L_law_41 : decode code 41 = .ok (.bipush 15, 2) := by decide +kernel
theorem d_L_law_43 : decode code 43 = .ok (.iand, 1) := by decide +kernel
theorem d_L_law_44 : decode code 44 = .ok (.tableswitch 387 0 10 #[60, 93, 126, 149, 172, 195, 218, 265, 278, 301, 314], 60) := by decide +kernel
theorem d_L_law_104 : decode code 104 = .ok (.aload_n 1, 1) := by decide +kernel
theorem d_L_law_105 : decode code 105 = .ok (.aload_n 0, 1) := by decide +kernel
theorem d_L_law_106 : decode code 106 = .ok (.iload_n 3, 1) := by decide +kernel
theorem d_L_law_107 : decode code 107 = .ok (.iconst 1, 1) := by decide +kernel
theorem d_L_law_108 : decode code 108 = .ok (.iadd, 1) := by decide +kernel
theorem d_L_law_109 : decode code 109 = .ok (.iaload, 1) := by decide +kernel
theorem d_L_law_110 : decode code 110 = .ok (.aload_n 0, 1) := by decide +kernel
theorem d_L_law_111 : decode code 111 = .ok (.iload_n 3, 1) := by decide +kernel
theorem d_L_law_112 : decode code 112 = .ok (.iconst 2, 1) := by decide +kernel
theorem d_L_law_113 : decode code 113 = .ok (.iadd, 1) := by decide +kernel
theorem d_L_law_114 : decode code 114 = .ok (.iaload, 1) := by decide +kernel
theorem d_L_law_115 : decode code 115 = .ok (.invokevirtual 21, 3) := by decide +kernel
theorem d_L_law_118 : decode code 118 = .ok (.aload_n 2, 1) := by decide +kernel
theorem d_L_law_119 : decode code 119 = .ok (.aload_n 0, 1) := by decide +kernel
theorem d_L_law_120 : decode code 120 = .ok (.iload_n 3, 1) := by decide +kernel
theorem d_L_law_121 : decode code 121 = .ok (.iconst 1, 1) := by decide +kernel
theorem d_L_law_122 : decode code 122 = .ok (.iadd, 1) := by decide +kernel
theorem d_L_law_123 : decode code 123 = .ok (.iaload, 1) := by decide +kernel
theorem d_L_law_124 : decode code 124 = .ok (.aload_n 0, 1) := by decide +kernel
theorem d_L_law_125 : decode code 125 = .ok (.iload_n 3, 1) := by decide +kernel
theorem d_L_law_126 : decode code 126 = .ok (.iconst 2, 1) := by decide +kernel
theorem d_L_law_127 : decode code 127 = .ok (.iadd, 1) := by decide +kernel
theorem d_L_law_128 : decode code 128 = .ok (.iaload, 1) := by decide +kernel
theorem d_L_law_129 : decode code 129 = .ok (.invokevirtual 25, 3) := by decide +kernel
theorem d_L_law_132 : decode code 132 = .ok (.if_icmp .eq 299, 3) := by decide +kernel
theorem d_L_law_135 : decode code 135 = .ok (.iconst 0, 1) := by decide +kernel
theorem d_L_law_136 : decode code 136 = .ok (.ireturn, 1) := by decide +kernel
theorem d_L_law_137 : decode code 137 = .ok (.aload_n 1, 1) := by decide +kernel
theorem d_L_law_138 : decode code 138 = .ok (.aload_n 0, 1) := by decide +kernel
theorem d_L_law_139 : decode code 139 = .ok (.iload_n 3, 1) := by decide +kernel
theorem d_L_law_140 : decode code 140 = .ok (.iconst 1, 1) := by decide +kernel
theorem d_L_law_141 : decode code 141 = .ok (.iadd, 1) := by decide +kernel
theorem d_L_law_142 : decode code 142 = .ok (.iaload, 1) := by decide +kernel
theorem d_L_law_143 : decode code 143 = .ok (.aload_n 0, 1) := by decide +kernel
theorem d_L_law_144 : decode code 144 = .ok (.iload_n 3, 1) := by decide +kernel
theorem d_L_law_145 : decode code 145 = .ok (.iconst 2, 1) := by decide +kernel
theorem d_L_law_146 : decode code 146 = .ok (.iadd, 1) := by decide +kernel
theorem d_L_law_147 : decode code 147 = .ok (.iaload, 1) := by decide +kernel
theorem d_L_law_148 : decode code 148 = .ok (.invokevirtual 26, 3) := by decide +kernel
theorem d_L_law_151 : decode code 151 = .ok (.aload_n 2, 1) := by decide +kernel
theorem d_L_law_152 : decode code 152 = .ok (.aload_n 0, 1) := by decide +kernel
theorem d_L_law_153 : decode code 153 = .ok (.iload_n 3, 1) := by decide +kernel
theorem d_L_law_154 : decode code 154 = .ok (.iconst 1, 1) := by decide +kernel
theorem d_L_law_155 : decode code 155 = .ok (.iadd, 1) := by decide +kernel
theorem d_L_law_156 : decode code 156 = .ok (.iaload, 1) := by decide +kernel
theorem d_L_law_157 : decode code 157 = .ok (.aload_n 0, 1) := by decide +kernel
theorem d_L_law_158 : decode code 158 = .ok (.iload_n 3, 1) := by decide +kernel
theorem d_L_law_159 : decode code 159 = .ok (.iconst 2, 1) := by decide +kernel
theorem d_L_law_160 : decode code 160 = .ok (.iadd, 1) := by decide +kernel
theorem d_L_law_161 : decode code 161 = .ok (.iaload, 1) := by decide +kernel
theorem d_L_law_162 : decode code 162 = .ok (.invokevirtual 29, 3) := by decide +kernel
theorem d_L_law_165 : decode code 165 = .ok (.if_icmp .eq 266, 3) := by decide +kernel
theorem d_L_law_168 : decode code 168 = .ok (.iconst 0, 1) := by decide +kernel
theorem d_L_law_169 : decode code 169 = .ok (.ireturn, 1) := by decide +kernel
theorem d_L_law_170 : decode code 170 = .ok (.aload_n 1, 1) := by decide +kernel
theorem d_L_law_171 : decode code 171 = .ok (.aload_n 0, 1) := by decide +kernel
theorem d_L_law_172 : decode code 172 = .ok (.iload_n 3, 1) := by decide +kernel
theorem d_L_law_173 : decode code 173 = .ok (.iconst 1, 1) := by decide +kernel
theorem d_L_law_174 : decode code 174 = .ok (.iadd, 1) := by decide +kernel
theorem d_L_law_175 : decode code 175 = .ok (.iaload, 1) := by decide +kernel
theorem d_L_law_176 : decode code 176 = .ok (.invokevirtual 30, 3) := by decide +kernel
theorem d_L_law_179 : decode code 179 = .ok (.aload_n 2, 1) := by decide +kernel
theorem d_L_law_180 : decode code 180 = .ok (.aload_n 0, 1) := by decide +kernel
theorem d_L_law_181 : decode code 181 = .ok (.iload_n 3, 1) := by decide +kernel
theorem d_L_law_182 : decode code 182 = .ok (.iconst 1, 1) := by decide +kernel
theorem d_L_law_183 : decode code 183 = .ok (.iadd, 1) := by decide +kernel
theorem d_L_law_184 : decode code 184 = .ok (.iaload, 1) := by decide +kernel
theorem d_L_law_185 : decode code 185 = .ok (.invokevirtual 34, 3) := by decide +kernel
theorem d_L_law_188 : decode code 188 = .ok (.if_icmp .eq 243, 3) := by decide +kernel
theorem d_L_law_191 : decode code 191 = .ok (.iconst 0, 1) := by decide +kernel
theorem d_L_law_192 : decode code 192 = .ok (.ireturn, 1) := by decide +kernel
theorem d_L_law_193 : decode code 193 = .ok (.aload_n 1, 1) := by decide +kernel
theorem d_L_law_194 : decode code 194 = .ok (.aload_n 0, 1) := by decide +kernel
theorem d_L_law_195 : decode code 195 = .ok (.iload_n 3, 1) := by decide +kernel
theorem d_L_law_196 : decode code 196 = .ok (.iconst 1, 1) := by decide +kernel
theorem d_L_law_197 : decode code 197 = .ok (.iadd, 1) := by decide +kernel
theorem d_L_law_198 : decode code 198 = .ok (.iaload, 1) := by decide +kernel
theorem d_L_law_199 : decode code 199 = .ok (.invokevirtual 35, 3) := by decide +kernel
theorem d_L_law_202 : decode code 202 = .ok (.aload_n 2, 1) := by decide +kernel
theorem d_L_law_203 : decode code 203 = .ok (.aload_n 0, 1) := by decide +kernel
theorem d_L_law_204 : decode code 204 = .ok (.iload_n 3, 1) := by decide +kernel
theorem d_L_law_205 : decode code 205 = .ok (.iconst 1, 1) := by decide +kernel
theorem d_L_law_206 : decode code 206 = .ok (.iadd, 1) := by decide +kernel
theorem d_L_law_207 : decode code 207 = .ok (.iaload, 1) := by decide +kernel
theorem d_L_law_208 : decode code 208 = .ok (.invokevirtual 38, 3) := by decide +kernel
theorem d_L_law_211 : decode code 211 = .ok (.if_icmp .eq 220, 3) := by decide +kernel
theorem d_L_law_214 : decode code 214 = .ok (.iconst 0, 1) := by decide +kernel
theorem d_L_law_215 : decode code 215 = .ok (.ireturn, 1) := by decide +kernel
theorem d_L_law_216 : decode code 216 = .ok (.aload_n 1, 1) := by decide +kernel
theorem d_L_law_217 : decode code 217 = .ok (.aload_n 0, 1) := by decide +kernel
theorem d_L_law_218 : decode code 218 = .ok (.iload_n 3, 1) := by decide +kernel
theorem d_L_law_219 : decode code 219 = .ok (.iconst 1, 1) := by decide +kernel
theorem d_L_law_220 : decode code 220 = .ok (.iadd, 1) := by decide +kernel
theorem d_L_law_221 : decode code 221 = .ok (.iaload, 1) := by decide +kernel
theorem d_L_law_222 : decode code 222 = .ok (.invokevirtual 39, 3) := by decide +kernel
theorem d_L_law_225 : decode code 225 = .ok (.aload_n 2, 1) := by decide +kernel
theorem d_L_law_226 : decode code 226 = .ok (.aload_n 0, 1) := by decide +kernel
theorem d_L_law_227 : decode code 227 = .ok (.iload_n 3, 1) := by decide +kernel
theorem d_L_law_228 : decode code 228 = .ok (.iconst 1, 1) := by decide +kernel
theorem d_L_law_229 : decode code 229 = .ok (.iadd, 1) := by decide +kernel
theorem d_L_law_230 : decode code 230 = .ok (.iaload, 1) := by decide +kernel
theorem d_L_law_231 : decode code 231 = .ok (.invokevirtual 43, 3) := by decide +kernel
theorem d_L_law_234 : decode code 234 = .ok (.if_icmp .eq 197, 3) := by decide +kernel
theorem d_L_law_237 : decode code 237 = .ok (.iconst 0, 1) := by decide +kernel
theorem d_L_law_238 : decode code 238 = .ok (.ireturn, 1) := by decide +kernel
theorem d_L_law_239 : decode code 239 = .ok (.aload_n 1, 1) := by decide +kernel
theorem d_L_law_240 : decode code 240 = .ok (.aload_n 0, 1) := by decide +kernel
theorem d_L_law_241 : decode code 241 = .ok (.iload_n 3, 1) := by decide +kernel
theorem d_L_law_242 : decode code 242 = .ok (.iconst 1, 1) := by decide +kernel
theorem d_L_law_243 : decode code 243 = .ok (.iadd, 1) := by decide +kernel
theorem d_L_law_244 : decode code 244 = .ok (.iaload, 1) := by decide +kernel
theorem d_L_law_245 : decode code 245 = .ok (.invokevirtual 44, 3) := by decide +kernel
theorem d_L_law_248 : decode code 248 = .ok (.aload_n 2, 1) := by decide +kernel
theorem d_L_law_249 : decode code 249 = .ok (.aload_n 0, 1) := by decide +kernel
theorem d_L_law_250 : decode code 250 = .ok (.iload_n 3, 1) := by decide +kernel
theorem d_L_law_251 : decode code 251 = .ok (.iconst 1, 1) := by decide +kernel
theorem d_L_law_252 : decode code 252 = .ok (.iadd, 1) := by decide +kernel
theorem d_L_law_253 : decode code 253 = .ok (.iaload, 1) := by decide +kernel
theorem d_L_law_254 : decode code 254 = .ok (.invokevirtual 47, 3) := by decide +kernel
theorem d_L_law_257 : decode code 257 = .ok (.if_icmp .eq 174, 3) := by decide +kernel
theorem d_L_law_260 : decode code 260 = .ok (.iconst 0, 1) := by decide +kernel
theorem d_L_law_261 : decode code 261 = .ok (.ireturn, 1) := by decide +kernel
theorem d_L_law_262 : decode code 262 = .ok (.aload_n 1, 1) := by decide +kernel
theorem d_L_law_263 : decode code 263 = .ok (.aload_n 0, 1) := by decide +kernel
theorem d_L_law_264 : decode code 264 = .ok (.iload_n 3, 1) := by decide +kernel
theorem d_L_law_265 : decode code 265 = .ok (.iconst 1, 1) := by decide +kernel
theorem d_L_law_266 : decode code 266 = .ok (.iadd, 1) := by decide +kernel
theorem d_L_law_267 : decode code 267 = .ok (.iaload, 1) := by decide +kernel
theorem d_L_law_268 : decode code 268 = .ok (.aload_n 0, 1) := by decide +kernel
theorem d_L_law_269 : decode code 269 = .ok (.iload_n 3, 1) := by decide +kernel
theorem d_L_law_270 : decode code 270 = .ok (.iconst 2, 1) := by decide +kernel
theorem d_L_law_271 : decode code 271 = .ok (.iadd, 1) := by decide +kernel
theorem d_L_law_272 : decode code 272 = .ok (.iaload, 1) := by decide +kernel
theorem d_L_law_273 : decode code 273 = .ok (.ifCond .eq 7, 3) := by decide +kernel
theorem d_L_law_276 : decode code 276 = .ok (.iconst 1, 1) := by decide +kernel
theorem d_L_law_277 : decode code 277 = .ok (.goto 4, 3) := by decide +kernel
theorem d_L_law_280 : decode code 280 = .ok (.iconst 0, 1) := by decide +kernel
theorem d_L_law_281 : decode code 281 = .ok (.invokevirtual 48, 3) := by decide +kernel
theorem d_L_law_284 : decode code 284 = .ok (.aload_n 2, 1) := by decide +kernel
theorem d_L_law_285 : decode code 285 = .ok (.aload_n 0, 1) := by decide +kernel
theorem d_L_law_286 : decode code 286 = .ok (.iload_n 3, 1) := by decide +kernel
theorem d_L_law_287 : decode code 287 = .ok (.iconst 1, 1) := by decide +kernel
theorem d_L_law_288 : decode code 288 = .ok (.iadd, 1) := by decide +kernel
theorem d_L_law_289 : decode code 289 = .ok (.iaload, 1) := by decide +kernel
theorem d_L_law_290 : decode code 290 = .ok (.aload_n 0, 1) := by decide +kernel
theorem d_L_law_291 : decode code 291 = .ok (.iload_n 3, 1) := by decide +kernel
theorem d_L_law_292 : decode code 292 = .ok (.iconst 2, 1) := by decide +kernel
theorem d_L_law_293 : decode code 293 = .ok (.iadd, 1) := by decide +kernel
theorem d_L_law_294 : decode code 294 = .ok (.iaload, 1) := by decide +kernel
theorem d_L_law_295 : decode code 295 = .ok (.ifCond .eq 7, 3) := by decide +kernel
theorem d_L_law_298 : decode code 298 = .ok (.iconst 1, 1) := by decide +kernel
theorem d_L_law_299 : decode code 299 = .ok (.goto 4, 3) := by decide +kernel
theorem d_L_law_302 : decode code 302 = .ok (.iconst 0, 1) := by decide +kernel
theorem d_L_law_303 : decode code 303 = .ok (.invokevirtual 52, 3) := by decide +kernel
theorem d_L_law_306 : decode code 306 = .ok (.goto 125, 3) := by decide +kernel
theorem d_L_law_309 : decode code 309 = .ok (.aload_n 1, 1) := by decide +kernel
theorem d_L_law_310 : decode code 310 = .ok (.invokevirtual 53, 3) := by decide +kernel
theorem d_L_law_313 : decode code 313 = .ok (.aload_n 2, 1) := by decide +kernel
theorem d_L_law_314 : decode code 314 = .ok (.invokevirtual 57, 3) := by decide +kernel
theorem d_L_law_317 : decode code 317 = .ok (.if_icmp .eq 114, 3) := by decide +kernel
theorem d_L_law_320 : decode code 320 = .ok (.iconst 0, 1) := by decide +kernel
theorem d_L_law_321 : decode code 321 = .ok (.ireturn, 1) := by decide +kernel
theorem d_L_law_322 : decode code 322 = .ok (.aload_n 1, 1) := by decide +kernel
theorem d_L_law_323 : decode code 323 = .ok (.aload_n 0, 1) := by decide +kernel
theorem d_L_law_324 : decode code 324 = .ok (.iload_n 3, 1) := by decide +kernel
theorem d_L_law_325 : decode code 325 = .ok (.iconst 1, 1) := by decide +kernel
theorem d_L_law_326 : decode code 326 = .ok (.iadd, 1) := by decide +kernel
theorem d_L_law_327 : decode code 327 = .ok (.iaload, 1) := by decide +kernel
theorem d_L_law_328 : decode code 328 = .ok (.invokevirtual 58, 3) := by decide +kernel
theorem d_L_law_331 : decode code 331 = .ok (.aload_n 2, 1) := by decide +kernel
theorem d_L_law_332 : decode code 332 = .ok (.aload_n 0, 1) := by decide +kernel
theorem d_L_law_333 : decode code 333 = .ok (.iload_n 3, 1) := by decide +kernel
theorem d_L_law_334 : decode code 334 = .ok (.iconst 1, 1) := by decide +kernel
theorem d_L_law_335 : decode code 335 = .ok (.iadd, 1) := by decide +kernel
theorem d_L_law_336 : decode code 336 = .ok (.iaload, 1) := by decide +kernel
theorem d_L_law_337 : decode code 337 = .ok (.invokevirtual 61, 3) := by decide +kernel
theorem d_L_law_340 : decode code 340 = .ok (.if_icmp .eq 91, 3) := by decide +kernel
theorem d_L_law_343 : decode code 343 = .ok (.iconst 0, 1) := by decide +kernel
theorem d_L_law_344 : decode code 344 = .ok (.ireturn, 1) := by decide +kernel
theorem d_L_law_345 : decode code 345 = .ok (.aload_n 1, 1) := by decide +kernel
theorem d_L_law_346 : decode code 346 = .ok (.invokevirtual 62, 3) := by decide +kernel
theorem d_L_law_349 : decode code 349 = .ok (.aload_n 2, 1) := by decide +kernel
theorem d_L_law_350 : decode code 350 = .ok (.invokevirtual 66, 3) := by decide +kernel
theorem d_L_law_353 : decode code 353 = .ok (.if_icmp .eq 78, 3) := by decide +kernel
theorem d_L_law_356 : decode code 356 = .ok (.iconst 0, 1) := by decide +kernel
theorem d_L_law_357 : decode code 357 = .ok (.ireturn, 1) := by decide +kernel
theorem d_L_law_358 : decode code 358 = .ok (.aload_n 1, 1) := by decide +kernel
theorem d_L_law_359 : decode code 359 = .ok (.aload_n 0, 1) := by decide +kernel
theorem d_L_law_360 : decode code 360 = .ok (.iload_n 3, 1) := by decide +kernel
theorem d_L_law_361 : decode code 361 = .ok (.iconst 1, 1) := by decide +kernel
theorem d_L_law_362 : decode code 362 = .ok (.iadd, 1) := by decide +kernel
theorem d_L_law_363 : decode code 363 = .ok (.iaload, 1) := by decide +kernel
theorem d_L_law_364 : decode code 364 = .ok (.i2l, 1) := by decide +kernel
theorem d_L_law_365 : decode code 365 = .ok (.bipush 32, 2) := by decide +kernel
theorem d_L_law_367 : decode code 367 = .ok (.lshl, 1) := by decide +kernel
theorem d_L_law_368 : decode code 368 = .ok (.aload_n 0, 1) := by decide +kernel
theorem d_L_law_369 : decode code 369 = .ok (.iload_n 3, 1) := by decide +kernel
theorem d_L_law_370 : decode code 370 = .ok (.iconst 2, 1) := by decide +kernel
theorem d_L_law_371 : decode code 371 = .ok (.iadd, 1) := by decide +kernel
theorem d_L_law_372 : decode code 372 = .ok (.iaload, 1) := by decide +kernel
theorem d_L_law_373 : decode code 373 = .ok (.i2l, 1) := by decide +kernel
theorem d_L_law_374 : decode code 374 = .ok (.ldc2_w 67, 3) := by decide +kernel
theorem d_L_law_377 : decode code 377 = .ok (.land, 1) := by decide +kernel
theorem d_L_law_378 : decode code 378 = .ok (.lor, 1) := by decide +kernel
theorem d_L_law_379 : decode code 379 = .ok (.aload_n 0, 1) := by decide +kernel
theorem d_L_law_380 : decode code 380 = .ok (.iload_n 3, 1) := by decide +kernel
theorem d_L_law_381 : decode code 381 = .ok (.iconst 3, 1) := by decide +kernel
theorem d_L_law_382 : decode code 382 = .ok (.iadd, 1) := by decide +kernel
theorem d_L_law_383 : decode code 383 = .ok (.iaload, 1) := by decide +kernel
theorem d_L_law_384 : decode code 384 = .ok (.aload_n 0, 1) := by decide +kernel
theorem d_L_law_385 : decode code 385 = .ok (.iload_n 3, 1) := by decide +kernel
theorem d_L_law_386 : decode code 386 = .ok (.iconst 4, 1) := by decide +kernel
theorem d_L_law_387 : decode code 387 = .ok (.iadd, 1) := by decide +kernel
theorem d_L_law_388 : decode code 388 = .ok (.iaload, 1) := by decide +kernel
theorem d_L_law_389 : decode code 389 = .ok (.invokevirtual 69, 3) := by decide +kernel
theorem d_L_law_392 : decode code 392 = .ok (.aload_n 2, 1) := by decide +kernel
theorem d_L_law_393 : decode code 393 = .ok (.aload_n 0, 1) := by decide +kernel
theorem d_L_law_394 : decode code 394 = .ok (.iload_n 3, 1) := by decide +kernel
theorem d_L_law_395 : decode code 395 = .ok (.iconst 1, 1) := by decide +kernel
theorem d_L_law_396 : decode code 396 = .ok (.iadd, 1) := by decide +kernel
theorem d_L_law_397 : decode code 397 = .ok (.iaload, 1) := by decide +kernel
theorem d_L_law_398 : decode code 398 = .ok (.i2l, 1) := by decide +kernel
theorem d_L_law_399 : decode code 399 = .ok (.bipush 32, 2) := by decide +kernel
theorem d_L_law_401 : decode code 401 = .ok (.lshl, 1) := by decide +kernel
theorem d_L_law_402 : decode code 402 = .ok (.aload_n 0, 1) := by decide +kernel
theorem d_L_law_403 : decode code 403 = .ok (.iload_n 3, 1) := by decide +kernel
theorem d_L_law_404 : decode code 404 = .ok (.iconst 2, 1) := by decide +kernel
theorem d_L_law_405 : decode code 405 = .ok (.iadd, 1) := by decide +kernel
theorem d_L_law_406 : decode code 406 = .ok (.iaload, 1) := by decide +kernel
theorem d_L_law_407 : decode code 407 = .ok (.i2l, 1) := by decide +kernel
theorem d_L_law_408 : decode code 408 = .ok (.ldc2_w 67, 3) := by decide +kernel
theorem d_L_law_411 : decode code 411 = .ok (.land, 1) := by decide +kernel
theorem d_L_law_412 : decode code 412 = .ok (.lor, 1) := by decide +kernel
theorem d_L_law_413 : decode code 413 = .ok (.aload_n 0, 1) := by decide +kernel
theorem d_L_law_414 : decode code 414 = .ok (.iload_n 3, 1) := by decide +kernel
theorem d_L_law_415 : decode code 415 = .ok (.iconst 3, 1) := by decide +kernel
theorem d_L_law_416 : decode code 416 = .ok (.iadd, 1) := by decide +kernel
theorem d_L_law_417 : decode code 417 = .ok (.iaload, 1) := by decide +kernel
theorem d_L_law_418 : decode code 418 = .ok (.aload_n 0, 1) := by decide +kernel
theorem d_L_law_419 : decode code 419 = .ok (.iload_n 3, 1) := by decide +kernel
theorem d_L_law_420 : decode code 420 = .ok (.iconst 4, 1) := by decide +kernel
theorem d_L_law_421 : decode code 421 = .ok (.iadd, 1) := by decide +kernel
theorem d_L_law_422 : decode code 422 = .ok (.iaload, 1) := by decide +kernel
theorem d_L_law_423 : decode code 423 = .ok (.invokevirtual 73, 3) := by decide +kernel
theorem d_L_law_426 : decode code 426 = .ok (.if_icmp .eq 5, 3) := by decide +kernel
theorem d_L_law_429 : decode code 429 = .ok (.iconst 0, 1) := by decide +kernel
theorem d_L_law_430 : decode code 430 = .ok (.ireturn, 1) := by decide +kernel
theorem d_L_law_431 : decode code 431 = .ok (.iinc 3 5, 3) := by decide +kernel
theorem d_L_law_434 : decode code 434 = .ok (.goto (-404), 3) := by decide +kernel
theorem d_L_law_437 : decode code 437 = .ok (.iconst 1, 1) := by decide +kernel
theorem d_L_law_438 : decode code 438 = .ok (.ireturn, 1) := by decide +kernel
end
section
section ZLAYER
/-- the tables' knowledge: the classes, the classes of arrays, the nest links -/
abbrev zG : Type := va_G × (Nat → ClassId)
def zK (G : zG) (U : State) : Prop := va_K G.1 vwCl (zTy G.2) U ∧ ∀ w ∈ zNest, va_Nw w U
theorem zK.same {G : zG} {u U : State} (h : u.vm = U.vm) (k : zK G u) : zK G U :=
  ⟨va_K.moved (by rw [← h]; exact Vm.Alike.refl _) k.1, fun w hw => va_Nw.same (zNest_tab w hw) h (k.2 w hw)⟩
theorem zK.warm {G : zG} {u U : State} (hW : u.WarmedH U.vm) (k : zK G u) : zK G U :=
  ⟨va_K.moved hW.alike k.1, fun w hw => by
    obtain ⟨a, i, x, h, rfl⟩ := zNest_form w hw
    exact va_Nw.warmM hW (k.2 _ hw)⟩
/-- what a walk knows of its machine -/
def zC (p : Program) (s : State) (m : MethodId) (args : Array Value) (meth : Method) (c : Code) (cc : ByteArray) (nL : Nat) (own : String) (G : zG) (A : Nat → Prop) : Prop :=
  p.tables.exec = Jvm.exec ∧ c.code = cc ∧ c.maxLocals = nL ∧ s.vm.findClass own = some m.cls ∧ (∀ w ∈ zTs, w.before args s = true) ∧ zK G s ∧ (∀ q : Nat, s.heap.size ≤ q → A q)
/-- the machine at pc, with locals lv, stack st, in a world w, comes to a state with Q -/
def zV (p : Program) (l : Launch) (e : Env) (R : Room) (s : State) (m : MethodId) (args : Array Value) (below : List Frame) (meth : Method) (c : Code) (nL : Nat) (G : zG) (A : Nat → Prop) (Q : State → Prop) (k n : Nat) (w : va_W) (pc : Nat) (lv : List (Nat × Value)) (st : List Value) : Prop :=
  ∀ (H : Heap) (locs : List Loc) (ls : Array Slot), va_P G.1 vwCl w H → va_D A w → va_S A s.heap H locs → lv_has ls nL lv → W p l e R s m args below meth c H locs k n Q (F0 m pc ls st)
/-- a contract: with av in the world w the method returns, and Post holds of its answer and its world -/
def zPre (G : zG) (av : List Value) (w : va_W) (sz : Nat) : Array Value → State → Prop := va_Pc av (fun U => U.heap.size = sz ∧ zK G U ∧ va_P G.1 vwCl w U.heap ∧ va_D (fun _ => True) w)
def zQ (G : zG) (w : va_W) (sz : Nat) (Post : Option Value → va_W → Prop) : Array Value → State → Outcome → State → Prop := fun _ st oc t =>
  (∃ (r : Option Value) (w' : va_W), oc = .returned r ∧ Post r w' ∧ va_P G.1 vwCl w' t.heap ∧ va_D (va_A w sz) w') ∧ va_F (va_A w sz) st t
def zW (y : MethodName) (b : ByteArray) (mL : Nat) (ret : Option FieldType) : List Cond := Cond.code y b mL ret :: zTs
def zM (G : zG) (l : Launch) (y : MethodName) (b : ByteArray) (mL : Nat) (ret : Option FieldType) (rm : Room) (av : List Value) (w : va_W) (Post : Option Value → va_W → Prop) : Prop :=
  ∀ sz : Nat, Met l y (zW y b mL ret) rm (zPre G av w sz) (zQ G w sz Post) rm.cells rm.slots (va_A w sz)
/-- a contract with one answer and one world -/
abbrev zF (G : zG) (l : Launch) (y : MethodName) (b : ByteArray) (mL : Nat) (ret : Option FieldType) (rm : Room) (av : List Value) (w : va_W) (r : Option Value) (w' : va_W) : Prop :=
  zM G l y b mL ret rm av w (fun r1 w1 => r1 = r ∧ w1 = w')
abbrev zR (d lo : Nat) : Room := { frames := d, cells := 0, slots := 0, locals := lo }
abbrev zRn (d lo mc ms : Nat) : Room := { frames := d, cells := mc, slots := ms, locals := lo }
theorem zGood {y : MethodName} {b : ByteArray} {mL : Nat} {ret : Option FieldType} (h : Cond.code y b mL ret ∈ zTs) : GoodIn zTs (zW y b mL ret) := fun w hw => by
  rcases List.mem_cons.mp hw with e | e
  · subst e; exact ⟨h, zTs_good _ h⟩
  · exact ⟨e, zTs_good _ e⟩
def zget (i : Nat) : List (Nat × Value) → Option Value
  | [] => none
  | q :: t => bif Nat.beq q.1 i then some q.2 else zget i t
theorem zget_mem {i : Nat} {v : Value} : ∀ {lv : List (Nat × Value)}, zget i lv = some v → (i, v) ∈ lv
  | [], h => by cases h
  | q :: t, h => by
    unfold zget at h
    cases hb : Nat.beq q.1 i with
    | true =>
      rw [hb] at h
      have e1 : q.1 = i := Nat.eq_of_beq_eq_true hb
      have e2 : q.2 = v := Option.some.inj h
      rw [← e1, ← e2]
      exact List.mem_cons_self
    | false =>
      rw [hb] at h
      exact List.mem_cons_of_mem _ (zget_mem h)
theorem zget_has {ls : Array Slot} {nL i : Nat} {v : Value} {lv : List (Nat × Value)} (h : lv_has ls nL lv) (hg : zget i lv = some v) : ls[i]? = some (.val v) := h.2.2 (i, v) (zget_mem hg)
theorem z_fm {α : Type} {is : List Nat} {w w' : List α} (h : is.map (fun i => w[i]?) = w'.map some) : is.filterMap (fun i => w[i]?) = w' := by
  induction is generalizing w' with
  | nil => cases w' with
    | nil => rfl
    | cons a t => cases h
  | cons i t ih => cases w' with
    | nil => cases h
    | cons a t' =>
      rw [List.map_cons, List.map_cons] at h
      injection h with h1 h2
      rw [List.filterMap_cons, h1, ih h2]
variable {p : Program} {l : Launch} {e : Env} {R : Room} {s : State} {m : MethodId} {args : Array Value} {below : List Frame} {meth : Method} {c : Code} {Q : State → Prop} {cc : ByteArray} {nL : Nat} {own : String} {G : zG} {A : Nat → Prop} {k n : Nat} {w : va_W} {pc : Nat} {lv : List (Nat × Value)} {st : List Value}
theorem zM_of {y : MethodName} {b : ByteArray} {mL : Nat} {ret : Option FieldType} {rm : Room} {av : List Value} {Post : Option Value → va_W → Prop} (hy : plainName y.cls = true) (hn : (lg_sl av).length ≤ mL)
    (body : ∀ (p : Program) (e : Env) (s : State) (m : MethodId) (args : Array Value) (below : List Frame) (meth : Method) (c : Code), zC p s m args meth c b mL y.cls G (va_A w s.heap.size) → meth.locks = false → meth.sig.returnType = ret → meth.name = y.name →
      zV p l e rm s m args below meth c mL G (va_A w s.heap.size) (MQ below (zQ G w s.heap.size Post) args s rm.cells rm.slots (va_A w s.heap.size)) 0 0 w 0 (lv_args 0 av) []) : zM G l y b mL ret rm av w Post := by
  intro sz
  refine Met.ofW (cc := b) (maxL := mL) (ret := ret) hy rfl ?_
  intro p e s m args below meth c s₁ B hml hv
  obtain ⟨rfl, hsz, hK, hP, hD0⟩ := hv
  subst hsz
  have hts := atoms_spec (ws := zW y b mL ret) B.pre
  have hD := hD0.self (sz := s.heap.size)
  have hl := lv_entry av (n := mL) hn
  rw [lg_entry_eq]
  exact body p e s m _ below meth c ⟨B.exec, B.bytes, hml, findClass_of_methodNamed B.named, fun w hw => hts w (List.mem_cons_of_mem _ hw), hK, fun q h => Or.inr h⟩ B.notSynchronized B.returns (name_of_methodNamed B.named B.method).1 s.heap [] _ hP hD va_S.rf hl
theorem z_iconst (C : zC p s m args meth c cc nL own G A) {i : Int} (v : Int32) (pc' : Nat) (hd : decode cc pc = .ok (.iconst i, 1)) (hp : pc + 1 = pc') (hv : Int32.ofInt i = v) (K : zV p l e R s m args below meth c nL G A Q k n w pc' lv (.int v :: st)) : zV p l e R s m args below meth c nL G A Q k n w pc lv (st) := by
  subst hp
  intro H locs ls hP hD hS hl
  exact lv_iconst C.1 C.2.1 hd hv (K H locs ls hP hD hS hl)
theorem z_bipush (C : zC p s m args meth c cc nL own G A) {i : Int} (v : Int32) (pc' : Nat) (hd : decode cc pc = .ok (.bipush i, 2)) (hp : pc + 2 = pc') (hv : (Int8.ofInt i).toInt32 = v) (K : zV p l e R s m args below meth c nL G A Q k n w pc' lv (.int v :: st)) : zV p l e R s m args below meth c nL G A Q k n w pc lv (st) := by
  subst hp
  intro H locs ls hP hD hS hl
  exact lv_bipush C.1 C.2.1 hd hv (K H locs ls hP hD hS hl)
theorem z_sipush (C : zC p s m args meth c cc nL own G A) {i : Int} (v : Int32) (pc' : Nat) (hd : decode cc pc = .ok (.sipush i, 3)) (hp : pc + 3 = pc') (hv : (Int16.ofInt i).toInt32 = v) (K : zV p l e R s m args below meth c nL G A Q k n w pc' lv (.int v :: st)) : zV p l e R s m args below meth c nL G A Q k n w pc lv (st) := by
  subst hp
  intro H locs ls hP hD hS hl
  exact lv_sipush C.1 C.2.1 hd hv (K H locs ls hP hD hS hl)
theorem z_lconst (C : zC p s m args meth c cc nL own G A) {i : Fin 2} (v : Int64) (pc' : Nat) (hd : decode cc pc = .ok (.lconst i, 1)) (hp : pc + 1 = pc') (hv : Int64.ofNat (i : Nat) = v) (K : zV p l e R s m args below meth c nL G A Q k n w pc' lv (.long v :: st)) : zV p l e R s m args below meth c nL G A Q k n w pc lv (st) := by
  subst hp
  intro H locs ls hP hD hS hl
  exact lv_lconst C.1 C.2.1 hd hv (K H locs ls hP hD hS hl)
theorem z_ldc (C : zC p s m args meth c cc nL own G A) {i : Nat} (v : Int32) (pc' : Nat) (hd : decode cc pc = .ok (.ldc i, 2)) (hp : pc + 2 = pc') (hv : Cond.constant own i v ∈ zTs) (K : zV p l e R s m args below meth c nL G A Q k n w pc' lv (.int v :: st)) : zV p l e R s m args below meth c nL G A Q k n w pc lv (st) := by
  subst hp
  intro H locs ls hP hD hS hl
  exact lv_ldc C.1 C.2.1 C.2.2.2.1 (C.2.2.2.2.1 _ hv) hd (K H locs ls hP hD hS hl)
theorem z_ldcw (C : zC p s m args meth c cc nL own G A) {i : Nat} (v : Int32) (pc' : Nat) (hd : decode cc pc = .ok (.ldc_w i, 3)) (hp : pc + 3 = pc') (hv : Cond.constant own i v ∈ zTs) (K : zV p l e R s m args below meth c nL G A Q k n w pc' lv (.int v :: st)) : zV p l e R s m args below meth c nL G A Q k n w pc lv (st) := by
  subst hp
  intro H locs ls hP hD hS hl
  exact lv_ldcw C.1 C.2.1 C.2.2.2.1 (C.2.2.2.2.1 _ hv) hd (K H locs ls hP hD hS hl)
theorem z_ldc2 (C : zC p s m args meth c cc nL own G A) {i : Nat} (v : Int64) (pc' : Nat) (hd : decode cc pc = .ok (.ldc2_w i, 3)) (hp : pc + 3 = pc') (hv : Cond.constantLong own i v ∈ zTs) (K : zV p l e R s m args below meth c nL G A Q k n w pc' lv (.long v :: st)) : zV p l e R s m args below meth c nL G A Q k n w pc lv (st) := by
  subst hp
  intro H locs ls hP hD hS hl
  exact lv_ldc2 C.1 C.2.1 C.2.2.2.1 (C.2.2.2.2.1 _ hv) hd (K H locs ls hP hD hS hl)
theorem z_iload_n (C : zC p s m args meth c cc nL own G A) {j : Fin 4} {x : Int32} (pc' : Nat) (hd : decode cc pc = .ok (.iload_n j, 1)) (hp : pc + 1 = pc') (hv : zget (j : Nat) lv = some (.int x)) (K : zV p l e R s m args below meth c nL G A Q k n w pc' lv (.int x :: st)) : zV p l e R s m args below meth c nL G A Q k n w pc lv (st) := by
  subst hp
  intro H locs ls hP hD hS hl
  exact lv_iload_n C.1 C.2.1 hd rfl (zget_has hl hv) (K H locs ls hP hD hS hl)
theorem z_iload (C : zC p s m args meth c cc nL own G A) {j : Nat} {x : Int32} (pc' : Nat) (hd : decode cc pc = .ok (.iload j, 2)) (hp : pc + 2 = pc') (hv : zget j lv = some (.int x)) (K : zV p l e R s m args below meth c nL G A Q k n w pc' lv (.int x :: st)) : zV p l e R s m args below meth c nL G A Q k n w pc lv (st) := by
  subst hp
  intro H locs ls hP hD hS hl
  exact lv_iload C.1 C.2.1 hd (zget_has hl hv) (K H locs ls hP hD hS hl)
theorem z_lload_n (C : zC p s m args meth c cc nL own G A) {j : Fin 4} {x : Int64} (pc' : Nat) (hd : decode cc pc = .ok (.lload_n j, 1)) (hp : pc + 1 = pc') (hv : zget (j : Nat) lv = some (.long x)) (K : zV p l e R s m args below meth c nL G A Q k n w pc' lv (.long x :: st)) : zV p l e R s m args below meth c nL G A Q k n w pc lv (st) := by
  subst hp
  intro H locs ls hP hD hS hl
  exact lv_lload_n C.1 C.2.1 hd rfl (zget_has hl hv) (K H locs ls hP hD hS hl)
theorem z_lload (C : zC p s m args meth c cc nL own G A) {j : Nat} {x : Int64} (pc' : Nat) (hd : decode cc pc = .ok (.lload j, 2)) (hp : pc + 2 = pc') (hv : zget j lv = some (.long x)) (K : zV p l e R s m args below meth c nL G A Q k n w pc' lv (.long x :: st)) : zV p l e R s m args below meth c nL G A Q k n w pc lv (st) := by
  subst hp
  intro H locs ls hP hD hS hl
  exact lv_lload C.1 C.2.1 hd (zget_has hl hv) (K H locs ls hP hD hS hl)
theorem z_aload_n (C : zC p s m args meth c cc nL own G A) {j : Fin 4} {x : Nat} (pc' : Nat) (hd : decode cc pc = .ok (.aload_n j, 1)) (hp : pc + 1 = pc') (hv : zget (j : Nat) lv = some (.ref x)) (K : zV p l e R s m args below meth c nL G A Q k n w pc' lv (.ref x :: st)) : zV p l e R s m args below meth c nL G A Q k n w pc lv (st) := by
  subst hp
  intro H locs ls hP hD hS hl
  exact lv_aload_n C.1 C.2.1 hd rfl (zget_has hl hv) (K H locs ls hP hD hS hl)
theorem z_aload (C : zC p s m args meth c cc nL own G A) {j : Nat} {x : Nat} (pc' : Nat) (hd : decode cc pc = .ok (.aload j, 2)) (hp : pc + 2 = pc') (hv : zget j lv = some (.ref x)) (K : zV p l e R s m args below meth c nL G A Q k n w pc' lv (.ref x :: st)) : zV p l e R s m args below meth c nL G A Q k n w pc lv (st) := by
  subst hp
  intro H locs ls hP hD hS hl
  exact lv_aload C.1 C.2.1 hd (zget_has hl hv) (K H locs ls hP hD hS hl)
theorem z_istore_n (C : zC p s m args meth c cc nL own G A) {j : Fin 4} {x : Int32} (lv' : List (Nat × Value)) (pc' : Nat) (hd : decode cc pc = .ok (.istore_n j, 1)) (hp : pc + 1 = pc') (hb : (j : Nat) < nL) (hv : ((j : Nat), Value.int x) :: lv.filter (fun q => !(q.1 == (j : Nat)) && !(q.1 + 1 == (j : Nat) && q.2.category == 2)) = lv') (K : zV p l e R s m args below meth c nL G A Q k n w pc' lv' st) : zV p l e R s m args below meth c nL G A Q k n w pc lv (.int x :: st) := by
  subst hp
  intro H locs ls hP hD hS hl
  exact lv_istore_n C.1 C.2.1 hd rfl hl hb hv (fun ls' hl' => K H locs ls' hP hD hS hl')
theorem z_istore (C : zC p s m args meth c cc nL own G A) {j : Nat} {x : Int32} (lv' : List (Nat × Value)) (pc' : Nat) (hd : decode cc pc = .ok (.istore j, 2)) (hp : pc + 2 = pc') (hb : j < nL) (hv : (j, Value.int x) :: lv.filter (fun q => !(q.1 == j) && !(q.1 + 1 == j && q.2.category == 2)) = lv') (K : zV p l e R s m args below meth c nL G A Q k n w pc' lv' st) : zV p l e R s m args below meth c nL G A Q k n w pc lv (.int x :: st) := by
  subst hp
  intro H locs ls hP hD hS hl
  exact lv_istore C.1 C.2.1 hd hl hb hv (fun ls' hl' => K H locs ls' hP hD hS hl')
theorem z_lstore_n (C : zC p s m args meth c cc nL own G A) {j : Fin 4} {x : Int64} (lv' : List (Nat × Value)) (pc' : Nat) (hd : decode cc pc = .ok (.lstore_n j, 1)) (hp : pc + 1 = pc') (hb : (j : Nat) + 1 < nL) (hv : ((j : Nat), Value.long x) :: lv.filter (fun q => !(q.1 == (j : Nat)) && (!(q.1 == (j : Nat) + 1) && !(q.1 + 1 == (j : Nat) && q.2.category == 2))) = lv') (K : zV p l e R s m args below meth c nL G A Q k n w pc' lv' st) : zV p l e R s m args below meth c nL G A Q k n w pc lv (.long x :: st) := by
  subst hp
  intro H locs ls hP hD hS hl
  exact lv_lstore_n C.1 C.2.1 hd rfl hl hb hv (fun ls' hl' => K H locs ls' hP hD hS hl')
theorem z_lstore (C : zC p s m args meth c cc nL own G A) {j : Nat} {x : Int64} (lv' : List (Nat × Value)) (pc' : Nat) (hd : decode cc pc = .ok (.lstore j, 2)) (hp : pc + 2 = pc') (hb : j + 1 < nL) (hv : (j, Value.long x) :: lv.filter (fun q => !(q.1 == j) && (!(q.1 == j + 1) && !(q.1 + 1 == j && q.2.category == 2))) = lv') (K : zV p l e R s m args below meth c nL G A Q k n w pc' lv' st) : zV p l e R s m args below meth c nL G A Q k n w pc lv (.long x :: st) := by
  subst hp
  intro H locs ls hP hD hS hl
  exact lv_lstore C.1 C.2.1 hd hl hb hv (fun ls' hl' => K H locs ls' hP hD hS hl')
theorem z_astore_n (C : zC p s m args meth c cc nL own G A) {j : Fin 4} {x : Nat} (lv' : List (Nat × Value)) (pc' : Nat) (hd : decode cc pc = .ok (.astore_n j, 1)) (hp : pc + 1 = pc') (hb : (j : Nat) < nL) (hv : ((j : Nat), Value.ref x) :: lv.filter (fun q => !(q.1 == (j : Nat)) && !(q.1 + 1 == (j : Nat) && q.2.category == 2)) = lv') (K : zV p l e R s m args below meth c nL G A Q k n w pc' lv' st) : zV p l e R s m args below meth c nL G A Q k n w pc lv (.ref x :: st) := by
  subst hp
  intro H locs ls hP hD hS hl
  exact lv_astore_n C.1 C.2.1 hd rfl hl hb hv (fun ls' hl' => K H locs ls' hP hD hS hl')
theorem z_astore (C : zC p s m args meth c cc nL own G A) {j : Nat} {x : Nat} (lv' : List (Nat × Value)) (pc' : Nat) (hd : decode cc pc = .ok (.astore j, 2)) (hp : pc + 2 = pc') (hb : j < nL) (hv : (j, Value.ref x) :: lv.filter (fun q => !(q.1 == j) && !(q.1 + 1 == j && q.2.category == 2)) = lv') (K : zV p l e R s m args below meth c nL G A Q k n w pc' lv' st) : zV p l e R s m args below meth c nL G A Q k n w pc lv (.ref x :: st) := by
  subst hp
  intro H locs ls hP hD hS hl
  exact lv_astore C.1 C.2.1 hd hl hb hv (fun ls' hl' => K H locs ls' hP hD hS hl')
theorem z_iinc (C : zC p s m args meth c cc nL own G A) {j : Nat} {i : Int} {x : Int32} (v : Int32) (lv' : List (Nat × Value)) (pc' : Nat) (hd : decode cc pc = .ok (.iinc j i, 3)) (hp : pc + 3 = pc') (hb : j < nL) (hx : zget j lv = some (.int x)) (hy : x + Int32.ofInt i = v) (hv : (j, Value.int v) :: lv.filter (fun q => !(q.1 == j) && !(q.1 + 1 == j && q.2.category == 2)) = lv') (K : zV p l e R s m args below meth c nL G A Q k n w pc' lv' st) : zV p l e R s m args below meth c nL G A Q k n w pc lv st := by
  subst hp
  intro H locs ls hP hD hS hl
  obtain ⟨j1, hj1⟩ := List.getElem?_of_mem (zget_mem hx)
  exact lv_iinc C.1 C.2.1 hd hl (k := j1) hj1 hy hb hv (fun ls' hl' => K H locs ls' hP hD hS hl')
theorem z_iadd (C : zC p s m args meth c cc nL own G A) {x y : Int32} (pc' : Nat) (hd : decode cc pc = .ok (.iadd, 1)) (hp : pc + 1 = pc')  (K : zV p l e R s m args below meth c nL G A Q k n w pc' lv (.int (x + y) :: st)) : zV p l e R s m args below meth c nL G A Q k n w pc lv (.int y :: .int x :: st) := by
  subst hp
  intro H locs ls hP hD hS hl
  exact lv_iadd C.1 C.2.1 hd (K H locs ls hP hD hS hl)
theorem z_isub (C : zC p s m args meth c cc nL own G A) {x y : Int32} (pc' : Nat) (hd : decode cc pc = .ok (.isub, 1)) (hp : pc + 1 = pc')  (K : zV p l e R s m args below meth c nL G A Q k n w pc' lv (.int (x - y) :: st)) : zV p l e R s m args below meth c nL G A Q k n w pc lv (.int y :: .int x :: st) := by
  subst hp
  intro H locs ls hP hD hS hl
  exact lv_isub C.1 C.2.1 hd (K H locs ls hP hD hS hl)
theorem z_imul (C : zC p s m args meth c cc nL own G A) {x y : Int32} (pc' : Nat) (hd : decode cc pc = .ok (.imul, 1)) (hp : pc + 1 = pc')  (K : zV p l e R s m args below meth c nL G A Q k n w pc' lv (.int (x * y) :: st)) : zV p l e R s m args below meth c nL G A Q k n w pc lv (.int y :: .int x :: st) := by
  subst hp
  intro H locs ls hP hD hS hl
  exact lv_imul C.1 C.2.1 hd (K H locs ls hP hD hS hl)
theorem z_iand (C : zC p s m args meth c cc nL own G A) {x y : Int32} (pc' : Nat) (hd : decode cc pc = .ok (.iand, 1)) (hp : pc + 1 = pc')  (K : zV p l e R s m args below meth c nL G A Q k n w pc' lv (.int (x &&& y) :: st)) : zV p l e R s m args below meth c nL G A Q k n w pc lv (.int y :: .int x :: st) := by
  subst hp
  intro H locs ls hP hD hS hl
  exact lv_iand C.1 C.2.1 hd (K H locs ls hP hD hS hl)
theorem z_ior (C : zC p s m args meth c cc nL own G A) {x y : Int32} (pc' : Nat) (hd : decode cc pc = .ok (.ior, 1)) (hp : pc + 1 = pc')  (K : zV p l e R s m args below meth c nL G A Q k n w pc' lv (.int (x ||| y) :: st)) : zV p l e R s m args below meth c nL G A Q k n w pc lv (.int y :: .int x :: st) := by
  subst hp
  intro H locs ls hP hD hS hl
  exact lv_ior C.1 C.2.1 hd (K H locs ls hP hD hS hl)
theorem z_ixor (C : zC p s m args meth c cc nL own G A) {x y : Int32} (pc' : Nat) (hd : decode cc pc = .ok (.ixor, 1)) (hp : pc + 1 = pc')  (K : zV p l e R s m args below meth c nL G A Q k n w pc' lv (.int (x ^^^ y) :: st)) : zV p l e R s m args below meth c nL G A Q k n w pc lv (.int y :: .int x :: st) := by
  subst hp
  intro H locs ls hP hD hS hl
  exact lv_ixor C.1 C.2.1 hd (K H locs ls hP hD hS hl)
theorem z_ishl (C : zC p s m args meth c cc nL own G A) {x y : Int32} (pc' : Nat) (hd : decode cc pc = .ok (.ishl, 1)) (hp : pc + 1 = pc')  (K : zV p l e R s m args below meth c nL G A Q k n w pc' lv (.int (x <<< (y &&& 31)) :: st)) : zV p l e R s m args below meth c nL G A Q k n w pc lv (.int y :: .int x :: st) := by
  subst hp
  intro H locs ls hP hD hS hl
  exact lv_ishl C.1 C.2.1 hd (K H locs ls hP hD hS hl)
theorem z_ishr (C : zC p s m args meth c cc nL own G A) {x y : Int32} (pc' : Nat) (hd : decode cc pc = .ok (.ishr, 1)) (hp : pc + 1 = pc')  (K : zV p l e R s m args below meth c nL G A Q k n w pc' lv (.int (x >>> (y &&& 31)) :: st)) : zV p l e R s m args below meth c nL G A Q k n w pc lv (.int y :: .int x :: st) := by
  subst hp
  intro H locs ls hP hD hS hl
  exact lv_ishr C.1 C.2.1 hd (K H locs ls hP hD hS hl)
theorem z_idiv (C : zC p s m args meth c cc nL own G A) {x y : Int32} (pc' : Nat) (hd : decode cc pc = .ok (.idiv, 1)) (hp : pc + 1 = pc') (hne : ¬ y = 0) (K : zV p l e R s m args below meth c nL G A Q k n w pc' lv (.int (x / y) :: st)) : zV p l e R s m args below meth c nL G A Q k n w pc lv (.int y :: .int x :: st) := by
  subst hp
  intro H locs ls hP hD hS hl
  exact lv_idiv C.1 C.2.1 hd hne (K H locs ls hP hD hS hl)
theorem z_irem (C : zC p s m args meth c cc nL own G A) {x y : Int32} (pc' : Nat) (hd : decode cc pc = .ok (.irem, 1)) (hp : pc + 1 = pc') (hne : ¬ y = 0) (K : zV p l e R s m args below meth c nL G A Q k n w pc' lv (.int (x - x / y * y) :: st)) : zV p l e R s m args below meth c nL G A Q k n w pc lv (.int y :: .int x :: st) := by
  subst hp
  intro H locs ls hP hD hS hl
  exact lv_irem C.1 C.2.1 hd hne (K H locs ls hP hD hS hl)
theorem z_ineg (C : zC p s m args meth c cc nL own G A) {x : Int32} (pc' : Nat) (hd : decode cc pc = .ok (.ineg, 1)) (hp : pc + 1 = pc')  (K : zV p l e R s m args below meth c nL G A Q k n w pc' lv (.int (-x) :: st)) : zV p l e R s m args below meth c nL G A Q k n w pc lv (.int x :: st) := by
  subst hp
  intro H locs ls hP hD hS hl
  exact lv_ineg C.1 C.2.1 hd (K H locs ls hP hD hS hl)
theorem z_ladd (C : zC p s m args meth c cc nL own G A) {x y : Int64} (pc' : Nat) (hd : decode cc pc = .ok (.ladd, 1)) (hp : pc + 1 = pc')  (K : zV p l e R s m args below meth c nL G A Q k n w pc' lv (.long (x + y) :: st)) : zV p l e R s m args below meth c nL G A Q k n w pc lv (.long y :: .long x :: st) := by
  subst hp
  intro H locs ls hP hD hS hl
  exact lv_ladd C.1 C.2.1 hd (K H locs ls hP hD hS hl)
theorem z_lsub (C : zC p s m args meth c cc nL own G A) {x y : Int64} (pc' : Nat) (hd : decode cc pc = .ok (.lsub, 1)) (hp : pc + 1 = pc')  (K : zV p l e R s m args below meth c nL G A Q k n w pc' lv (.long (x - y) :: st)) : zV p l e R s m args below meth c nL G A Q k n w pc lv (.long y :: .long x :: st) := by
  subst hp
  intro H locs ls hP hD hS hl
  exact lv_lsub C.1 C.2.1 hd (K H locs ls hP hD hS hl)
theorem z_lmul (C : zC p s m args meth c cc nL own G A) {x y : Int64} (pc' : Nat) (hd : decode cc pc = .ok (.lmul, 1)) (hp : pc + 1 = pc')  (K : zV p l e R s m args below meth c nL G A Q k n w pc' lv (.long (x * y) :: st)) : zV p l e R s m args below meth c nL G A Q k n w pc lv (.long y :: .long x :: st) := by
  subst hp
  intro H locs ls hP hD hS hl
  exact lv_lmul C.1 C.2.1 hd (K H locs ls hP hD hS hl)
theorem z_land (C : zC p s m args meth c cc nL own G A) {x y : Int64} (pc' : Nat) (hd : decode cc pc = .ok (.land, 1)) (hp : pc + 1 = pc')  (K : zV p l e R s m args below meth c nL G A Q k n w pc' lv (.long (x &&& y) :: st)) : zV p l e R s m args below meth c nL G A Q k n w pc lv (.long y :: .long x :: st) := by
  subst hp
  intro H locs ls hP hD hS hl
  exact lv_land C.1 C.2.1 hd (K H locs ls hP hD hS hl)
theorem z_lor (C : zC p s m args meth c cc nL own G A) {x y : Int64} (pc' : Nat) (hd : decode cc pc = .ok (.lor, 1)) (hp : pc + 1 = pc')  (K : zV p l e R s m args below meth c nL G A Q k n w pc' lv (.long (x ||| y) :: st)) : zV p l e R s m args below meth c nL G A Q k n w pc lv (.long y :: .long x :: st) := by
  subst hp
  intro H locs ls hP hD hS hl
  exact lv_lor C.1 C.2.1 hd (K H locs ls hP hD hS hl)
theorem z_lxor (C : zC p s m args meth c cc nL own G A) {x y : Int64} (pc' : Nat) (hd : decode cc pc = .ok (.lxor, 1)) (hp : pc + 1 = pc')  (K : zV p l e R s m args below meth c nL G A Q k n w pc' lv (.long (x ^^^ y) :: st)) : zV p l e R s m args below meth c nL G A Q k n w pc lv (.long y :: .long x :: st) := by
  subst hp
  intro H locs ls hP hD hS hl
  exact lv_lxor C.1 C.2.1 hd (K H locs ls hP hD hS hl)
theorem z_ldiv (C : zC p s m args meth c cc nL own G A) {x y : Int64} (pc' : Nat) (hd : decode cc pc = .ok (.ldiv, 1)) (hp : pc + 1 = pc') (hne : ¬ y = 0) (K : zV p l e R s m args below meth c nL G A Q k n w pc' lv (.long (x / y) :: st)) : zV p l e R s m args below meth c nL G A Q k n w pc lv (.long y :: .long x :: st) := by
  subst hp
  intro H locs ls hP hD hS hl
  exact lv_ldiv C.1 C.2.1 hd hne (K H locs ls hP hD hS hl)
theorem z_lrem (C : zC p s m args meth c cc nL own G A) {x y : Int64} (pc' : Nat) (hd : decode cc pc = .ok (.lrem, 1)) (hp : pc + 1 = pc') (hne : ¬ y = 0) (K : zV p l e R s m args below meth c nL G A Q k n w pc' lv (.long (x - x / y * y) :: st)) : zV p l e R s m args below meth c nL G A Q k n w pc lv (.long y :: .long x :: st) := by
  subst hp
  intro H locs ls hP hD hS hl
  exact lv_lrem C.1 C.2.1 hd hne (K H locs ls hP hD hS hl)
theorem z_iushr (C : zC p s m args meth c cc nL own G A) {x y : Int32} (pc' : Nat) (hd : decode cc pc = .ok (.iushr, 1)) (hp : pc + 1 = pc')  (K : zV p l e R s m args below meth c nL G A Q k n w pc' lv (.int ((x.toUInt32 >>> (y.toUInt32 &&& Int32.toUInt32 31)).toInt32) :: st)) : zV p l e R s m args below meth c nL G A Q k n w pc lv (.int y :: .int x :: st) := by
  subst hp
  intro H locs ls hP hD hS hl
  exact lv_iushr C.1 C.2.1 hd rfl (K H locs ls hP hD hS hl)
theorem z_lushr (C : zC p s m args meth c cc nL own G A) {x : Int64} {y : Int32} (pc' : Nat) (hd : decode cc pc = .ok (.lushr, 1)) (hp : pc + 1 = pc')  (K : zV p l e R s m args below meth c nL G A Q k n w pc' lv (.long ((x.toUInt64 >>> (y.toInt64.toUInt64 &&& Int64.toUInt64 63)).toInt64) :: st)) : zV p l e R s m args below meth c nL G A Q k n w pc lv (.int y :: .long x :: st) := by
  subst hp
  intro H locs ls hP hD hS hl
  exact lv_lushr C.1 C.2.1 hd rfl (K H locs ls hP hD hS hl)
theorem z_lshl (C : zC p s m args meth c cc nL own G A) {x : Int64} {y : Int32} (pc' : Nat) (hd : decode cc pc = .ok (.lshl, 1)) (hp : pc + 1 = pc')  (K : zV p l e R s m args below meth c nL G A Q k n w pc' lv (.long (x <<< (y.toInt64 &&& 63)) :: st)) : zV p l e R s m args below meth c nL G A Q k n w pc lv (.int y :: .long x :: st) := by
  subst hp
  intro H locs ls hP hD hS hl
  exact lv_lshl C.1 C.2.1 hd rfl (K H locs ls hP hD hS hl)
theorem z_lshr (C : zC p s m args meth c cc nL own G A) {x : Int64} {y : Int32} (pc' : Nat) (hd : decode cc pc = .ok (.lshr, 1)) (hp : pc + 1 = pc')  (K : zV p l e R s m args below meth c nL G A Q k n w pc' lv (.long (x >>> (y.toInt64 &&& 63)) :: st)) : zV p l e R s m args below meth c nL G A Q k n w pc lv (.int y :: .long x :: st) := by
  subst hp
  intro H locs ls hP hD hS hl
  exact lv_lshr C.1 C.2.1 hd rfl (K H locs ls hP hD hS hl)
theorem z_i2l (C : zC p s m args meth c cc nL own G A) {x : Int32} (pc' : Nat) (hd : decode cc pc = .ok (.i2l, 1)) (hp : pc + 1 = pc')  (K : zV p l e R s m args below meth c nL G A Q k n w pc' lv (.long x.toInt64 :: st)) : zV p l e R s m args below meth c nL G A Q k n w pc lv (.int x :: st) := by
  subst hp
  intro H locs ls hP hD hS hl
  exact lv_i2l C.1 C.2.1 hd rfl (K H locs ls hP hD hS hl)
theorem z_l2i (C : zC p s m args meth c cc nL own G A) {x : Int64} (pc' : Nat) (hd : decode cc pc = .ok (.l2i, 1)) (hp : pc + 1 = pc')  (K : zV p l e R s m args below meth c nL G A Q k n w pc' lv (.int x.toInt32 :: st)) : zV p l e R s m args below meth c nL G A Q k n w pc lv (.long x :: st) := by
  subst hp
  intro H locs ls hP hD hS hl
  exact lv_l2i C.1 C.2.1 hd rfl (K H locs ls hP hD hS hl)
theorem z_i2b (C : zC p s m args meth c cc nL own G A) {x : Int32} (pc' : Nat) (hd : decode cc pc = .ok (.i2b, 1)) (hp : pc + 1 = pc')  (K : zV p l e R s m args below meth c nL G A Q k n w pc' lv (.int x.toInt8.toInt32 :: st)) : zV p l e R s m args below meth c nL G A Q k n w pc lv (.int x :: st) := by
  subst hp
  intro H locs ls hP hD hS hl
  exact lv_i2b C.1 C.2.1 hd rfl (K H locs ls hP hD hS hl)
theorem z_lcmp (C : zC p s m args meth c cc nL own G A) {x y : Int64} (pc' : Nat) (hd : decode cc pc = .ok (.lcmp, 1)) (hp : pc + 1 = pc')  (K : zV p l e R s m args below meth c nL G A Q k n w pc' lv (.int (lg_cmp x y) :: st)) : zV p l e R s m args below meth c nL G A Q k n w pc lv (.long y :: .long x :: st) := by
  subst hp
  intro H locs ls hP hD hS hl
  exact W.lcmp C.1 C.2.1 hd (K H locs ls hP hD hS hl)
theorem z_dup (C : zC p s m args meth c cc nL own G A) {va : Value} (pc' : Nat) (hd : decode cc pc = .ok (.dup, 1)) (hp : pc + 1 = pc') (h1 : va.category = 1) (K : zV p l e R s m args below meth c nL G A Q k n w pc' lv (va :: va :: st)) : zV p l e R s m args below meth c nL G A Q k n w pc lv (va :: st) := by
  subst hp
  intro H locs ls hP hD hS hl
  exact lv_dup C.1 C.2.1 hd h1 (K H locs ls hP hD hS hl)
theorem z_pop (C : zC p s m args meth c cc nL own G A) {va : Value} (pc' : Nat) (hd : decode cc pc = .ok (.pop, 1)) (hp : pc + 1 = pc') (h1 : va.category = 1) (K : zV p l e R s m args below meth c nL G A Q k n w pc' lv (st)) : zV p l e R s m args below meth c nL G A Q k n w pc lv (va :: st) := by
  subst hp
  intro H locs ls hP hD hS hl
  exact lv_pop C.1 C.2.1 hd h1 (K H locs ls hP hD hS hl)
theorem z_dup_x1 (C : zC p s m args meth c cc nL own G A) {va vb : Value} (pc' : Nat) (hd : decode cc pc = .ok (.dup_x1, 1)) (hp : pc + 1 = pc') (h1 : va.category = 1) (h2 : vb.category = 1) (K : zV p l e R s m args below meth c nL G A Q k n w pc' lv (va :: vb :: va :: st)) : zV p l e R s m args below meth c nL G A Q k n w pc lv (va :: vb :: st) := by
  subst hp
  intro H locs ls hP hD hS hl
  exact lv_dup_x1 C.1 C.2.1 hd h1 h2 (K H locs ls hP hD hS hl)
theorem z_dup_x2 (C : zC p s m args meth c cc nL own G A) {va vb vd : Value} (pc' : Nat) (hd : decode cc pc = .ok (.dup_x2, 1)) (hp : pc + 1 = pc') (h1 : va.category = 1) (h2 : vb.category = 1) (h3 : vd.category = 1) (K : zV p l e R s m args below meth c nL G A Q k n w pc' lv (va :: vb :: vd :: va :: st)) : zV p l e R s m args below meth c nL G A Q k n w pc lv (va :: vb :: vd :: st) := by
  subst hp
  intro H locs ls hP hD hS hl
  exact lv_dup_x2 C.1 C.2.1 hd h1 h2 h3 (K H locs ls hP hD hS hl)
theorem z_dup2_11 (C : zC p s m args meth c cc nL own G A) {va vb : Value} (pc' : Nat) (hd : decode cc pc = .ok (.dup2, 1)) (hp : pc + 1 = pc') (h1 : va.category = 1) (h2 : vb.category = 1) (K : zV p l e R s m args below meth c nL G A Q k n w pc' lv (va :: vb :: va :: vb :: st)) : zV p l e R s m args below meth c nL G A Q k n w pc lv (va :: vb :: st) := by
  subst hp
  intro H locs ls hP hD hS hl
  exact lv_dup2_11 C.1 C.2.1 hd h1 h2 (K H locs ls hP hD hS hl)
theorem z_dup2_2 (C : zC p s m args meth c cc nL own G A) {va : Value} (pc' : Nat) (hd : decode cc pc = .ok (.dup2, 1)) (hp : pc + 1 = pc') (h1 : va.category = 2) (K : zV p l e R s m args below meth c nL G A Q k n w pc' lv (va :: va :: st)) : zV p l e R s m args below meth c nL G A Q k n w pc lv (va :: st) := by
  subst hp
  intro H locs ls hP hD hS hl
  exact lv_dup2_2 C.1 C.2.1 hd h1 (K H locs ls hP hD hS hl)
theorem z_if_eq (C : zC p s m args meth c cc nL own G A) {x : Int32} {off : Int} (tgt pc' : Nat) (hd : decode cc pc = .ok (.ifCond .eq off, 3)) (ht : (pc : Int) + off = (tgt : Int)) (hp : pc + 3 = pc') (kt : x = 0 → zV p l e R s m args below meth c nL G A Q k n w tgt lv st) (kf : ¬ x = 0 → zV p l e R s m args below meth c nL G A Q k n w pc' lv st) : zV p l e R s m args below meth c nL G A Q k n w pc lv (.int x :: st) := by
  subst hp
  intro H locs ls hP hD hS hl
  exact lv_if_eq C.1 C.2.1 hd ht (fun z => kt z H locs ls hP hD hS hl) (fun z => kf z H locs ls hP hD hS hl)
theorem z_if_ne (C : zC p s m args meth c cc nL own G A) {x : Int32} {off : Int} (tgt pc' : Nat) (hd : decode cc pc = .ok (.ifCond .ne off, 3)) (ht : (pc : Int) + off = (tgt : Int)) (hp : pc + 3 = pc') (kt : ¬ x = 0 → zV p l e R s m args below meth c nL G A Q k n w tgt lv st) (kf : x = 0 → zV p l e R s m args below meth c nL G A Q k n w pc' lv st) : zV p l e R s m args below meth c nL G A Q k n w pc lv (.int x :: st) := by
  subst hp
  intro H locs ls hP hD hS hl
  exact lv_if_ne C.1 C.2.1 hd ht (fun z => kt z H locs ls hP hD hS hl) (fun z => kf z H locs ls hP hD hS hl)
theorem z_if_lt (C : zC p s m args meth c cc nL own G A) {x : Int32} {off : Int} (tgt pc' : Nat) (hd : decode cc pc = .ok (.ifCond .lt off, 3)) (ht : (pc : Int) + off = (tgt : Int)) (hp : pc + 3 = pc') (kt : x < 0 → zV p l e R s m args below meth c nL G A Q k n w tgt lv st) (kf : ¬ x < 0 → zV p l e R s m args below meth c nL G A Q k n w pc' lv st) : zV p l e R s m args below meth c nL G A Q k n w pc lv (.int x :: st) := by
  subst hp
  intro H locs ls hP hD hS hl
  exact lv_if_lt C.1 C.2.1 hd ht (fun z => kt z H locs ls hP hD hS hl) (fun z => kf z H locs ls hP hD hS hl)
theorem z_if_ge (C : zC p s m args meth c cc nL own G A) {x : Int32} {off : Int} (tgt pc' : Nat) (hd : decode cc pc = .ok (.ifCond .ge off, 3)) (ht : (pc : Int) + off = (tgt : Int)) (hp : pc + 3 = pc') (kt : 0 ≤ x → zV p l e R s m args below meth c nL G A Q k n w tgt lv st) (kf : ¬ 0 ≤ x → zV p l e R s m args below meth c nL G A Q k n w pc' lv st) : zV p l e R s m args below meth c nL G A Q k n w pc lv (.int x :: st) := by
  subst hp
  intro H locs ls hP hD hS hl
  exact lv_if_ge C.1 C.2.1 hd ht (fun z => kt z H locs ls hP hD hS hl) (fun z => kf z H locs ls hP hD hS hl)
theorem z_if_gt (C : zC p s m args meth c cc nL own G A) {x : Int32} {off : Int} (tgt pc' : Nat) (hd : decode cc pc = .ok (.ifCond .gt off, 3)) (ht : (pc : Int) + off = (tgt : Int)) (hp : pc + 3 = pc') (kt : 0 < x → zV p l e R s m args below meth c nL G A Q k n w tgt lv st) (kf : ¬ 0 < x → zV p l e R s m args below meth c nL G A Q k n w pc' lv st) : zV p l e R s m args below meth c nL G A Q k n w pc lv (.int x :: st) := by
  subst hp
  intro H locs ls hP hD hS hl
  exact lv_if_gt C.1 C.2.1 hd ht (fun z => kt z H locs ls hP hD hS hl) (fun z => kf z H locs ls hP hD hS hl)
theorem z_if_le (C : zC p s m args meth c cc nL own G A) {x : Int32} {off : Int} (tgt pc' : Nat) (hd : decode cc pc = .ok (.ifCond .le off, 3)) (ht : (pc : Int) + off = (tgt : Int)) (hp : pc + 3 = pc') (kt : x ≤ 0 → zV p l e R s m args below meth c nL G A Q k n w tgt lv st) (kf : ¬ x ≤ 0 → zV p l e R s m args below meth c nL G A Q k n w pc' lv st) : zV p l e R s m args below meth c nL G A Q k n w pc lv (.int x :: st) := by
  subst hp
  intro H locs ls hP hD hS hl
  exact lv_if_le C.1 C.2.1 hd ht (fun z => kt z H locs ls hP hD hS hl) (fun z => kf z H locs ls hP hD hS hl)
theorem z_icmp_eq (C : zC p s m args meth c cc nL own G A) {x y : Int32} {off : Int} (tgt pc' : Nat) (hd : decode cc pc = .ok (.if_icmp .eq off, 3)) (ht : (pc : Int) + off = (tgt : Int)) (hp : pc + 3 = pc') (kt : x = y → zV p l e R s m args below meth c nL G A Q k n w tgt lv st) (kf : ¬ x = y → zV p l e R s m args below meth c nL G A Q k n w pc' lv st) : zV p l e R s m args below meth c nL G A Q k n w pc lv (.int y :: .int x :: st) := by
  subst hp
  intro H locs ls hP hD hS hl
  exact lv_icmp_eq C.1 C.2.1 hd ht (fun z => kt z H locs ls hP hD hS hl) (fun z => kf z H locs ls hP hD hS hl)
theorem z_icmp_ne (C : zC p s m args meth c cc nL own G A) {x y : Int32} {off : Int} (tgt pc' : Nat) (hd : decode cc pc = .ok (.if_icmp .ne off, 3)) (ht : (pc : Int) + off = (tgt : Int)) (hp : pc + 3 = pc') (kt : ¬ x = y → zV p l e R s m args below meth c nL G A Q k n w tgt lv st) (kf : x = y → zV p l e R s m args below meth c nL G A Q k n w pc' lv st) : zV p l e R s m args below meth c nL G A Q k n w pc lv (.int y :: .int x :: st) := by
  subst hp
  intro H locs ls hP hD hS hl
  exact lv_icmp_ne C.1 C.2.1 hd ht (fun z => kt z H locs ls hP hD hS hl) (fun z => kf z H locs ls hP hD hS hl)
theorem z_icmp_lt (C : zC p s m args meth c cc nL own G A) {x y : Int32} {off : Int} (tgt pc' : Nat) (hd : decode cc pc = .ok (.if_icmp .lt off, 3)) (ht : (pc : Int) + off = (tgt : Int)) (hp : pc + 3 = pc') (kt : x < y → zV p l e R s m args below meth c nL G A Q k n w tgt lv st) (kf : ¬ x < y → zV p l e R s m args below meth c nL G A Q k n w pc' lv st) : zV p l e R s m args below meth c nL G A Q k n w pc lv (.int y :: .int x :: st) := by
  subst hp
  intro H locs ls hP hD hS hl
  exact lv_icmp_lt C.1 C.2.1 hd ht (fun z => kt z H locs ls hP hD hS hl) (fun z => kf z H locs ls hP hD hS hl)
theorem z_icmp_ge (C : zC p s m args meth c cc nL own G A) {x y : Int32} {off : Int} (tgt pc' : Nat) (hd : decode cc pc = .ok (.if_icmp .ge off, 3)) (ht : (pc : Int) + off = (tgt : Int)) (hp : pc + 3 = pc') (kt : y ≤ x → zV p l e R s m args below meth c nL G A Q k n w tgt lv st) (kf : ¬ y ≤ x → zV p l e R s m args below meth c nL G A Q k n w pc' lv st) : zV p l e R s m args below meth c nL G A Q k n w pc lv (.int y :: .int x :: st) := by
  subst hp
  intro H locs ls hP hD hS hl
  exact lv_icmp_ge C.1 C.2.1 hd ht (fun z => kt z H locs ls hP hD hS hl) (fun z => kf z H locs ls hP hD hS hl)
theorem z_icmp_gt (C : zC p s m args meth c cc nL own G A) {x y : Int32} {off : Int} (tgt pc' : Nat) (hd : decode cc pc = .ok (.if_icmp .gt off, 3)) (ht : (pc : Int) + off = (tgt : Int)) (hp : pc + 3 = pc') (kt : y < x → zV p l e R s m args below meth c nL G A Q k n w tgt lv st) (kf : ¬ y < x → zV p l e R s m args below meth c nL G A Q k n w pc' lv st) : zV p l e R s m args below meth c nL G A Q k n w pc lv (.int y :: .int x :: st) := by
  subst hp
  intro H locs ls hP hD hS hl
  exact lv_icmp_gt C.1 C.2.1 hd ht (fun z => kt z H locs ls hP hD hS hl) (fun z => kf z H locs ls hP hD hS hl)
theorem z_icmp_le (C : zC p s m args meth c cc nL own G A) {x y : Int32} {off : Int} (tgt pc' : Nat) (hd : decode cc pc = .ok (.if_icmp .le off, 3)) (ht : (pc : Int) + off = (tgt : Int)) (hp : pc + 3 = pc') (kt : x ≤ y → zV p l e R s m args below meth c nL G A Q k n w tgt lv st) (kf : ¬ x ≤ y → zV p l e R s m args below meth c nL G A Q k n w pc' lv st) : zV p l e R s m args below meth c nL G A Q k n w pc lv (.int y :: .int x :: st) := by
  subst hp
  intro H locs ls hP hD hS hl
  exact lv_icmp_le C.1 C.2.1 hd ht (fun z => kt z H locs ls hP hD hS hl) (fun z => kf z H locs ls hP hD hS hl)
theorem z_goto (C : zC p s m args meth c cc nL own G A) {off : Int} (tgt : Nat) (hd : decode cc pc = .ok (.goto off, 3)) (ht : (pc : Int) + off = (tgt : Int)) (K : zV p l e R s m args below meth c nL G A Q k n w tgt lv st) : zV p l e R s m args below meth c nL G A Q k n w pc lv st := fun H locs ls hP hD hS hl => lv_goto C.1 C.2.1 hd ht (K H locs ls hP hD hS hl)
theorem z_tableIn (C : zC p s m args meth c cc nL own G A) {dflt lo hi : Int} {offs : Array Int} {len : Nat} {x : Int32} {off : Int} (tgt : Nat) (hd : decode cc pc = .ok (.tableswitch dflt lo hi offs, len)) (h1 : ¬ x.toInt < lo) (h2 : ¬ hi < x.toInt) (ho : offs[(x.toInt - lo).toNat]? = some off) (ht : (pc : Int) + off = (tgt : Int)) (K : zV p l e R s m args below meth c nL G A Q k n w tgt lv st) : zV p l e R s m args below meth c nL G A Q k n w pc lv (.int x :: st) := fun H locs ls hP hD hS hl => lv_tableIn C.1 C.2.1 hd h1 h2 ho ht (K H locs ls hP hD hS hl)
theorem z_tableOut (C : zC p s m args meth c cc nL own G A) {dflt lo hi : Int} {offs : Array Int} {len : Nat} {x : Int32} (tgt : Nat) (hd : decode cc pc = .ok (.tableswitch dflt lo hi offs, len)) (h : x.toInt < lo ∨ hi < x.toInt) (ht : (pc : Int) + dflt = (tgt : Int)) (K : zV p l e R s m args below meth c nL G A Q k n w tgt lv st) : zV p l e R s m args below meth c nL G A Q k n w pc lv (.int x :: st) := fun H locs ls hP hD hS hl => lv_tableOut C.1 C.2.1 hd h ht (K H locs ls hP hD hS hl)
theorem z_lookup (C : zC p s m args meth c cc nL own G A) {dflt : Int} {ps : Array (Int × Int)} {len : Nat} {x : Int32} {off : Int} (tgt : Nat) (hd : decode cc pc = .ok (.lookupswitch dflt ps, len)) (hq : (ps.toList.zip (ps.toList.drop 1)).all (fun (a, next) => a.1 < next.1) = true) (ho : Op.lookupswitch.offset ps.toList dflt x.toInt = off) (ht : (pc : Int) + off = (tgt : Int)) (K : zV p l e R s m args below meth c nL G A Q k n w tgt lv st) : zV p l e R s m args below meth c nL G A Q k n w pc lv (.int x :: st) := fun H locs ls hP hD hS hl => lv_lookup C.1 C.2.1 hd hq ho ht (K H locs ls hP hD hS hl)
theorem z_topi {x : Int32} (K : ∀ y : Int32, y = x → zV p l e R s m args below meth c nL G A Q k n w pc lv (.int y :: st)) : zV p l e R s m args below meth c nL G A Q k n w pc lv (.int x :: st) := K x rfl
theorem z_topl {x : Int64} (K : ∀ y : Int64, y = x → zV p l e R s m args below meth c nL G A Q k n w pc lv (.long y :: st)) : zV p l e R s m args below meth c nL G A Q k n w pc lv (.long x :: st) := K x rfl
theorem z_lvs (ks : List Nat) (lv' : List (Nat × Value)) (h : lv_pick lv ks = lv') (K : zV p l e R s m args below meth c nL G A Q k n w pc lv' st) : zV p l e R s m args below meth c nL G A Q k n w pc lv st := fun H locs ls hP hD hS hl => K H locs ls hP hD hS (lv_sub hl ks h)
theorem z_wsub (is : List Nat) (w' : va_W) (h : is.map (fun i => w[i]?) = w'.map some) (hn : va_nd is = true) (K : zV p l e R s m args below meth c nL G A Q k n w' pc lv st) : zV p l e R s m args below meth c nL G A Q k n w pc lv st := fun H locs ls hP hD hS hl => K H locs ls (hP.sub is (z_fm h)) (hD.sub is hn h) hS hl
theorem z_weq {w' : va_W} (h : w = w') (K : zV p l e R s m args below meth c nL G A Q k n w' pc lv st) : zV p l e R s m args below meth c nL G A Q k n w pc lv st := h ▸ K
theorem z_steq {st' : List Value} (h : st = st') (K : zV p l e R s m args below meth c nL G A Q k n w pc lv st') : zV p l e R s m args below meth c nL G A Q k n w pc lv st := h ▸ K
theorem z_wide {k' n' : Nat} (h1 : k ≤ k') (h2 : n ≤ n') (K : zV p l e R s m args below meth c nL G A Q k' n' w pc lv st) : zV p l e R s m args below meth c nL G A Q k n w pc lv st := fun H locs ls hP hD hS hl => W.widen h1 h2 (K H locs ls hP hD hS hl)
def zFok (own : String) (index ci j : Nat) (Cn : String) (T : u_T) (N : Nat) : Prop := vwCl[ci]? = some (Cn, T, N) ∧ j < N ∧ (∀ w ∈ u_ws Cn T N, w ∈ zTs) ∧ Cond.fieldLink own index (T j).1 (T j).2.1 (T j).2.2.1 ∈ zTs
def zPok (Cn : String) (T : u_T) (N : Nat) (ty0 : Nat → FieldType) : Prop := (∀ j, j < N → parseFieldDescriptor (T j).2.2.1 = some (ty0 j)) ∧ ∀ a, a < N → ∀ b, b < N → a ≠ b → (T a).2.1 ≠ (T b).2.1
theorem z_get (C : zC p s m args meth c cc nL own G A) {index ci j : Nat} {Cn : String} {T : u_T} {N : Nat} (F : zFok own index ci j Cn T N) (q0 : Nat) {a : Nat} {fs : List Value} {v : Value} (pc' : Nat) (hd : decode cc pc = .ok (.getfield index, 3)) (hp : pc + 3 = pc') (he : w[q0]? = some (a, .inr (ci, fs))) (hv : fs[j]? = some v) (K : zV p l e R s m args below meth c nL G A Q k n w pc' lv (v :: st)) : zV p l e R s m args below meth c nL G A Q k n w pc lv (.ref a :: st) := by
  subst hp
  intro H locs ls hP hD hS hl
  exact va_get (D := G.1) C.1 C.2.1 C.2.2.2.2.1 F.2.2.1 C.2.2.2.1 C.2.2.2.2.2.1.1 hP q0 he F.1 j F.2.1 (C.2.2.2.2.1 _ F.2.2.2) (fun _ h9 => h9) hv hd (K H locs ls hP hD hS hl)
theorem z_put (C : zC p s m args meth c cc nL own G A) {index ci j : Nat} {Cn : String} {T : u_T} {N : Nat} {ty0 : Nat → FieldType} (F : zFok own index ci j Cn T N) (Pk : zPok Cn T N ty0) (q0 : Nat) {a : Nat} {fs : List Value} {v : Value} (w' : va_W) (pc' : Nat) (hd : decode cc pc = .ok (.putfield index, 3)) (hp : pc + 3 = pc') (he : w[q0]? = some (a, .inr (ci, fs))) (hfin : (T j).2.2.2 = false) (hnr : narrow (ty0 j) v = v) (hft : fits (ty0 j) v = true) (hlt : j < fs.length) (hw : w.set q0 (a, .inr (ci, fs.set j v)) = w') (K : zV p l e R s m args below meth c nL G A Q k n w' pc' lv st) : zV p l e R s m args below meth c nL G A Q k n w pc lv (v :: .ref a :: st) := by
  subst hp
  subst hw
  intro H locs ls hP hD hS hl
  exact va_put (D := G.1) C.1 C.2.1 C.2.2.2.2.1 F.2.2.1 ty0 Pk.1 Pk.2 C.2.2.2.1 C.2.2.2.2.2.1.1 hP hD hS q0 he F.1 j F.2.1 (C.2.2.2.2.1 _ F.2.2.2) (fun _ h9 => h9) hfin (Pk.1 j F.2.1) hnr hft hlt hd (fun H1 locs1 hP1 hD1 hS1 => K H1 locs1 ls hP1 hD1 hS1 hl)
theorem z_putF (C : zC p s m args meth c cc nL own G A) (hin : meth.name = "<init>") {index ci j : Nat} {Cn : String} {T : u_T} {N : Nat} {ty0 : Nat → FieldType} (F : zFok own index ci j Cn T N) (Pk : zPok Cn T N ty0) (q0 : Nat) {a : Nat} {fs : List Value} {v : Value} (w' : va_W) (pc' : Nat) (hd : decode cc pc = .ok (.putfield index, 3)) (hp : pc + 3 = pc') (he : w[q0]? = some (a, .inr (ci, fs))) (hfin : (T j).2.2.2 = true) (hown : (T j).1 = own) (hnr : narrow (ty0 j) v = v) (hft : fits (ty0 j) v = true) (hlt : j < fs.length) (hw : w.set q0 (a, .inr (ci, fs.set j v)) = w') (K : zV p l e R s m args below meth c nL G A Q k n w' pc' lv st) : zV p l e R s m args below meth c nL G A Q k n w pc lv (v :: .ref a :: st) := by
  subst hp
  subst hw
  intro H locs ls hP hD hS hl
  exact va_putF (D := G.1) C.1 C.2.1 C.2.2.2.2.1 F.2.2.1 ty0 Pk.1 Pk.2 C.2.2.2.1 C.2.2.2.2.2.1.1 hP hD hS q0 he F.1 j F.2.1 (C.2.2.2.2.1 _ F.2.2.2) (fun _ h9 => h9) hfin hin hown (Pk.1 j F.2.1) hnr hft hlt hd (fun H1 locs1 hP1 hD1 hS1 => K H1 locs1 ls hP1 hD1 hS1 hl)
theorem z_iald (C : zC p s m args meth c cc nL own G A) (q0 t0 : Nat) {a : Nat} {cA : ClassId} {len : Nat} {f : Nat → Int32} {i : Int32} (pc' : Nat) (hd : decode cc pc = .ok (.iaload, 1)) (hp : pc + 1 = pc') (he : w[q0]? = some (a, .inl (cA, len, .inl f))) (ht : (zTy G.2)[t0]? = some (cA, .int)) (hin : vp_in i len) (K : zV p l e R s m args below meth c nL G A Q k n w pc' lv (.int (f i.toNatClampNeg) :: st)) : zV p l e R s m args below meth c nL G A Q k n w pc lv (.int i :: .ref a :: st) := by
  subst hp
  intro H locs ls hP hD hS hl
  exact va_iald C.1 C.2.1 C.2.2.2.2.2.1.1 hP q0 t0 he ht hin hd (K H locs ls hP hD hS hl)
theorem z_iast (C : zC p s m args meth c cc nL own G A) (q0 t0 : Nat) {a : Nat} {cA : ClassId} {len : Nat} {f : Nat → Int32} {i : Int32} {x : Int32} (w' : va_W) (pc' : Nat) (hd : decode cc pc = .ok (.iastore, 1)) (hp : pc + 1 = pc') (he : w[q0]? = some (a, .inl (cA, len, .inl f))) (ht : (zTy G.2)[t0]? = some (cA, .int)) (hin : vp_in i len) (hw : w.set q0 (a, .inl (cA, len, .inl (upd f i.toNatClampNeg x))) = w') (K : zV p l e R s m args below meth c nL G A Q k n w' pc' lv st) : zV p l e R s m args below meth c nL G A Q k n w pc lv (.int x :: .int i :: .ref a :: st) := by
  subst hp
  subst hw
  intro H locs ls hP hD hS hl
  exact va_iast C.1 C.2.1 C.2.2.2.2.2.1.1 hP hD hS q0 t0 he ht hin hd (fun H1 locs1 hP1 hD1 hS1 => K H1 locs1 ls hP1 hD1 hS1 hl)
theorem z_lald (C : zC p s m args meth c cc nL own G A) (q0 t0 : Nat) {a : Nat} {cA : ClassId} {len : Nat} {f : Nat → Int64} {i : Int32} (pc' : Nat) (hd : decode cc pc = .ok (.laload, 1)) (hp : pc + 1 = pc') (he : w[q0]? = some (a, .inl (cA, len, .inr (.inl f)))) (ht : (zTy G.2)[t0]? = some (cA, .long)) (hin : vp_in i len) (K : zV p l e R s m args below meth c nL G A Q k n w pc' lv (.long (f i.toNatClampNeg) :: st)) : zV p l e R s m args below meth c nL G A Q k n w pc lv (.int i :: .ref a :: st) := by
  subst hp
  intro H locs ls hP hD hS hl
  exact va_lald C.1 C.2.1 C.2.2.2.2.2.1.1 hP q0 t0 he ht hin hd (K H locs ls hP hD hS hl)
theorem z_last (C : zC p s m args meth c cc nL own G A) (q0 t0 : Nat) {a : Nat} {cA : ClassId} {len : Nat} {f : Nat → Int64} {i : Int32} {x : Int64} (w' : va_W) (pc' : Nat) (hd : decode cc pc = .ok (.lastore, 1)) (hp : pc + 1 = pc') (he : w[q0]? = some (a, .inl (cA, len, .inr (.inl f)))) (ht : (zTy G.2)[t0]? = some (cA, .long)) (hin : vp_in i len) (hw : w.set q0 (a, .inl (cA, len, .inr (.inl (vp_updL f i.toNatClampNeg x)))) = w') (K : zV p l e R s m args below meth c nL G A Q k n w' pc' lv st) : zV p l e R s m args below meth c nL G A Q k n w pc lv (.long x :: .int i :: .ref a :: st) := by
  subst hp
  subst hw
  intro H locs ls hP hD hS hl
  exact va_last C.1 C.2.1 C.2.2.2.2.2.1.1 hP hD hS q0 t0 he ht hin hd (fun H1 locs1 hP1 hD1 hS1 => K H1 locs1 ls hP1 hD1 hS1 hl)
theorem z_bald (C : zC p s m args meth c cc nL own G A) (q0 t0 : Nat) {a : Nat} {cA : ClassId} {len : Nat} {f : Nat → Int32} {i : Int32} (pc' : Nat) (hd : decode cc pc = .ok (.baload, 1)) (hp : pc + 1 = pc') (he : w[q0]? = some (a, .inl (cA, len, .inl f))) (ht : (zTy G.2)[t0]? = some (cA, .byte)) (hin : vp_in i len) (K : zV p l e R s m args below meth c nL G A Q k n w pc' lv (.int (f i.toNatClampNeg) :: st)) : zV p l e R s m args below meth c nL G A Q k n w pc lv (.int i :: .ref a :: st) := by
  subst hp
  intro H locs ls hP hD hS hl
  exact va_bald C.1 C.2.1 C.2.2.2.2.2.1.1 hP q0 t0 he ht hin hd (K H locs ls hP hD hS hl)
theorem z_bast (C : zC p s m args meth c cc nL own G A) (q0 t0 : Nat) {a : Nat} {cA : ClassId} {len : Nat} {f : Nat → Int32} {i : Int32} {x : Int32} (w' : va_W) (pc' : Nat) (hd : decode cc pc = .ok (.bastore, 1)) (hp : pc + 1 = pc') (he : w[q0]? = some (a, .inl (cA, len, .inl f))) (ht : (zTy G.2)[t0]? = some (cA, .byte)) (hin : vp_in i len) (hw : w.set q0 (a, .inl (cA, len, .inl (upd f i.toNatClampNeg (vp_nar .byte x)))) = w') (K : zV p l e R s m args below meth c nL G A Q k n w' pc' lv st) : zV p l e R s m args below meth c nL G A Q k n w pc lv (.int x :: .int i :: .ref a :: st) := by
  subst hp
  subst hw
  intro H locs ls hP hD hS hl
  exact va_bast C.1 C.2.1 C.2.2.2.2.2.1.1 hP hD hS q0 t0 he ht hin hd (fun H1 locs1 hP1 hD1 hS1 => K H1 locs1 ls hP1 hD1 hS1 hl)
theorem z_alen (C : zC p s m args meth c cc nL own G A) (q0 t0 : Nat) {a : Nat} {cA : ClassId} {x : vp_A} {ty : FieldType} (v : Int32) (pc' : Nat) (hd : decode cc pc = .ok (.arraylength, 1)) (hp : pc + 1 = pc') (he : w[q0]? = some (a, .inl (cA, x))) (ht : (zTy G.2)[t0]? = some (cA, ty)) (hv : Int32.ofNat x.1 = v) (K : zV p l e R s m args below meth c nL G A Q k n w pc' lv (.int v :: st)) : zV p l e R s m args below meth c nL G A Q k n w pc lv (.ref a :: st) := by
  subst hp
  intro H locs ls hP hD hS hl
  exact va_alen C.1 C.2.1 C.2.2.2.2.2.1.1 hP q0 t0 he ht hv hd (K H locs ls hP hD hS hl)
theorem z_iret {w0 : va_W} (C : zC p s m args meth c cc nL own G (va_A w0 s.heap.size)) (hlk : meth.locks = false) {Post : Option Value → va_W → Prop} {v : Int32} (hr : meth.sig.returnType = some .int) (hd : decode cc pc = .ok (.ireturn, 1)) (hq : Post (some (.int v)) w) : zV p l e R s m args below meth c nL G (va_A w0 s.heap.size) (MQ below (zQ G w0 s.heap.size Post) args s k n (va_A w0 s.heap.size)) k n w pc lv ([.int v]) := fun H locs ls hP hD hS hl => W.iret C.1 C.2.1 hr (fun t ht hW => ⟨⟨_, w, rfl, hq, by rw [ht]; exact hP, hD⟩, hS.F ht⟩) hS.2.2 hd hlk
theorem z_zret {w0 : va_W} (C : zC p s m args meth c cc nL own G (va_A w0 s.heap.size)) (hlk : meth.locks = false) {Post : Option Value → va_W → Prop} {v : Int32} {ty : FieldType} (hnr : narrow ty (.int v) = .int v) (hr : meth.sig.returnType = some ty) (hd : decode cc pc = .ok (.ireturn, 1)) (hq : Post (some (.int v)) w) : zV p l e R s m args below meth c nL G (va_A w0 s.heap.size) (MQ below (zQ G w0 s.heap.size Post) args s k n (va_A w0 s.heap.size)) k n w pc lv ([.int v]) := fun H locs ls hP hD hS hl => W.zret C.1 C.2.1 hr hnr (fun t ht hW => ⟨⟨_, w, rfl, hq, by rw [ht]; exact hP, hD⟩, hS.F ht⟩) hS.2.2 hd hlk
theorem z_lret {w0 : va_W} (C : zC p s m args meth c cc nL own G (va_A w0 s.heap.size)) (hlk : meth.locks = false) {Post : Option Value → va_W → Prop} {v : Int64} (hr : meth.sig.returnType = some .long) (hd : decode cc pc = .ok (.lreturn, 1)) (hq : Post (some (.long v)) w) : zV p l e R s m args below meth c nL G (va_A w0 s.heap.size) (MQ below (zQ G w0 s.heap.size Post) args s k n (va_A w0 s.heap.size)) k n w pc lv ([.long v]) := fun H locs ls hP hD hS hl => W.lret C.1 C.2.1 hr (fun t ht hW => ⟨⟨_, w, rfl, hq, by rw [ht]; exact hP, hD⟩, hS.F ht⟩) hS.2.2 hd hlk
theorem z_vret {w0 : va_W} (C : zC p s m args meth c cc nL own G (va_A w0 s.heap.size)) (hlk : meth.locks = false) {Post : Option Value → va_W → Prop}  (hr : meth.sig.returnType = none) (hd : decode cc pc = .ok (.return_, 1)) (hq : Post (none) w) : zV p l e R s m args below meth c nL G (va_A w0 s.heap.size) (MQ below (zQ G w0 s.heap.size Post) args s k n (va_A w0 s.heap.size)) k n w pc lv ([]) := fun H locs ls hP hD hS hl => W.vret C.1 C.2.1 hr (fun t ht hW => ⟨⟨_, w, rfl, hq, by rw [ht]; exact hP, hD⟩, hS.F ht⟩) hS.2.2 hd hlk
/-- a call that runs by its contract, in any world that holds the callee's -/
def zCall (p : Program) (l : Launch) (e : Env) (R : Room) (s : State) (m : MethodId) (args : Array Value) (below : List Frame) (meth : Method) (c : Code) (nL : Nat) (G : zG) (k n pc : Nat) (st0 st : List Value) (rm : Room) (wc : va_W) (Post : Option Value → va_W → Prop) : Prop :=
  ∀ (H : Heap) (locs : List Loc) (ls : Array Slot), ls.size = nL → va_P G.1 vwCl wc H → va_D (fun _ => True) wc → va_Run p l e R s m args below meth c H locs k n rm.cells rm.slots (F0 m pc ls st0) st (zQ G wc H.size Post #[]) (va_A wc H.size)
theorem zPre_blind {G : zG} {av : List Value} {w : va_W} {sz : Nat} : FrameBlind (zPre G av w sz) := fun a U g mk q => ⟨q.1, q.2.1, zK.same (u := U) (U := U.calling g mk a) rfl q.2.2.1, q.2.2.2⟩
def zBok (y : MethodName) (b : ByteArray) (mL : Nat) (ret : Option FieldType) (N : Nat) : Prop := Cond.code y b mL ret ∈ zTs ∧ Cond.initialized y.cls ∈ zTs ∧ y.cls ≠ "java/lang/invoke/MethodHandle" ∧ y.cls ≠ "java/lang/invoke/VarHandle" ∧ (parseMethodDescriptor y.desc).map (fun d => d.parameters.length) = some N
def zRoom (R rm : Room) (mL k n : Nat) : Prop := (rm.frames + 1 ≤ R.frames ∧ 8 + (mL + 11) + rm.locals ≤ R.locals) ∧ k + rm.cells ≤ R.cells ∧ n + rm.slots ≤ R.slots
theorem zCallB {y : MethodName} {b : ByteArray} {mL N index : Nat} {ret : Option FieldType} {rm : Room} (ht : ∀ w ∈ zTs, w.before args s = true) (X : zBok y b mL ret N) (hl : Cond.methodLink own index y ∈ zTs) (hR : rm.frames + 1 ≤ R.frames ∧ 8 + (mL + 11) + rm.locals ≤ R.locals) : CallB R s args own index y b mL ret (zW y b mL ret) rm rm.cells rm.slots N :=
  callB_of N ht (zGood X.1) rfl rfl rfl (ht _ X.2.1) (ht _ hl) X.2.2 hR
theorem zCallN {y : MethodName} {b : ByteArray} {mL N index : Nat} {ret : Option FieldType} {rm : Room} {host : String} (ht : ∀ w ∈ zTs, w.before args s = true) (hK : zK G s) (X : zBok y b mL ret N) (hl : Cond.methodLinkNest own index y host ∈ zNest) (hR : rm.frames + 1 ≤ R.frames ∧ 8 + (mL + 11) + rm.locals ≤ R.locals) : va_CN R s args own index y host b mL ret (zW y b mL ret) rm rm.cells rm.slots N :=
  va_cnB N ht (zGood X.1) rfl rfl rfl (hK.2 _ hl) (ht _ X.2.1) X.2.2 hR
def zVok (own : String) (index : Nat) (y : MethodName) (b : ByteArray) (mL : Nat) (ret : Option FieldType) (N : Nat) : Prop := zBok y b mL ret N ∧ Cond.methodLink own index y ∈ zTs ∧ Cond.instanceMethod y ∈ zTs ∧ Cond.selects y.cls y y ∈ zTs
def zSok (own : String) (index : Nat) (y : MethodName) (b : ByteArray) (mL : Nat) (ret : Option FieldType) (N : Nat) : Prop := zBok y b mL ret N ∧ Cond.methodLink own index y ∈ zTs ∧ Cond.static y ∈ zTs
def zIok (own : String) (index : Nat) (y : MethodName) (b : ByteArray) (mL : Nat) (N : Nat) : Prop := zBok y b mL none N ∧ Cond.methodLink own index y ∈ zTs ∧ Cond.instanceMethod y ∈ zTs ∧ y.name = "<init>"
def zVNok (own : String) (index : Nat) (host : String) (y : MethodName) (b : ByteArray) (mL : Nat) (ret : Option FieldType) (N : Nat) : Prop := zBok y b mL ret N ∧ Cond.methodLinkNest own index y host ∈ zNest ∧ Cond.instanceMethod y ∈ zTs ∧ Cond.selects y.cls y y ∈ zTs
def zSNok (own : String) (index : Nat) (host : String) (y : MethodName) (b : ByteArray) (mL : Nat) (ret : Option FieldType) (N : Nat) : Prop := zBok y b mL ret N ∧ Cond.methodLinkNest own index y host ∈ zNest ∧ Cond.static y ∈ zTs
def zINok (own : String) (index : Nat) (host : String) (y : MethodName) (b : ByteArray) (mL : Nat) (N : Nat) : Prop := zBok y b mL none N ∧ Cond.methodLinkNest own index y host ∈ zNest ∧ Cond.instanceMethod y ∈ zTs ∧ y.name = "<init>"
theorem z_V (C : zC p s m args meth c cc nL own G A) {y : MethodName} {b : ByteArray} {mL N index : Nat} {ret : Option FieldType} {rm : Room} {As : List Value} {a : Nat} {wc : va_W} {Post : Option Value → va_W → Prop} (X : zVok own index y b mL ret N) (hM : zM G l y b mL ret rm (.ref a :: As) wc Post) (q0 ci : Nat) {T : u_T} {Nf : Nat} {fs : List Value} (hcl : vwCl[ci]? = some (y.cls, T, Nf)) (he : wc[q0]? = some (a, .inr (ci, fs))) {st0 : List Value} (hst : st0 = As.reverse ++ .ref a :: st) (hN : As.length = N) (hW : (st.map fun v => v.category).sum ≤ 8) (hR : zRoom R rm mL k n) (hd : decode cc pc = .ok (.invokevirtual index, 3)) : zCall p l e R s m args below meth c nL G k n pc st0 st rm wc Post := fun H locs ls hz hP hD => va_runV (As := As) (rest := st) ⟨C.1, C.2.1, C.2.2.1, C.2.2.2.1, C.2.2.2.2.1⟩ (hM H.size) ⟨zCallB C.2.2.2.2.1 X.1 X.2.1 hR.1, C.2.2.2.2.1 _ X.2.2.1, C.2.2.2.2.1 _ X.2.2.2⟩ ⟨zPre_blind, va_recv C.2.2.2.2.2.1.1 hP hcl he, fun U hU hW => ⟨rfl, by rw [hU], zK.warm hW C.2.2.2.2.2.1, by rw [hU]; exact hP, hD⟩⟩ rfl hN hz hst (lv_room hW) hd hR.2
theorem z_S (C : zC p s m args meth c cc nL own G A) {y : MethodName} {b : ByteArray} {mL N index : Nat} {ret : Option FieldType} {rm : Room} {As : List Value} {wc : va_W} {Post : Option Value → va_W → Prop} (X : zSok own index y b mL ret N) (hM : zM G l y b mL ret rm As wc Post)  {st0 : List Value} (hst : st0 = As.reverse ++ st) (hN : As.length = N) (hW : (st.map fun v => v.category).sum ≤ 8) (hR : zRoom R rm mL k n) (hd : decode cc pc = .ok (.invokestatic index, 3)) : zCall p l e R s m args below meth c nL G k n pc st0 st rm wc Post := fun H locs ls hz hP hD => va_runS (As := As) (rest := st) ⟨C.1, C.2.1, C.2.2.1, C.2.2.2.1, C.2.2.2.2.1⟩ (hM H.size) ⟨zCallB C.2.2.2.2.1 X.1 X.2.1 hR.1, C.2.2.2.2.1 _ X.2.2⟩ ⟨zPre_blind, fun U hU hW => ⟨rfl, by rw [hU], zK.warm hW C.2.2.2.2.2.1, by rw [hU]; exact hP, hD⟩⟩ rfl hN hz hst (lv_room hW) hd hR.2
theorem z_I (C : zC p s m args meth c cc nL own G A) {y : MethodName} {b : ByteArray} {mL N index : Nat} {rm : Room} {As : List Value} {a : Nat} {wc : va_W} {Post : Option Value → va_W → Prop} (X : zIok own index y b mL N) (hM : zM G l y b mL none rm (.ref a :: As) wc Post)  {st0 : List Value} (hst : st0 = As.reverse ++ .ref a :: st) (hN : As.length = N) (hW : (st.map fun v => v.category).sum ≤ 8) (hR : zRoom R rm mL k n) (hd : decode cc pc = .ok (.invokespecial index, 3)) : zCall p l e R s m args below meth c nL G k n pc st0 st rm wc Post := fun H locs ls hz hP hD => va_runI (As := As) (rest := st) ⟨C.1, C.2.1, C.2.2.1, C.2.2.2.1, C.2.2.2.2.1⟩ (hM H.size) ⟨zCallB C.2.2.2.2.1 X.1 X.2.1 hR.1, X.2.2.2, C.2.2.2.2.1 _ X.2.2.1⟩ ⟨zPre_blind, fun U hU hW => ⟨rfl, by rw [hU], zK.warm hW C.2.2.2.2.2.1, by rw [hU]; exact hP, hD⟩⟩ rfl hN hz hst (lv_room hW) hd hR.2
theorem z_VN (C : zC p s m args meth c cc nL own G A) {y : MethodName} {b : ByteArray} {mL N index : Nat} {ret : Option FieldType} {rm : Room} {As : List Value} {a : Nat} {wc : va_W} {Post : Option Value → va_W → Prop} {host : String} (X : zVNok own index host y b mL ret N) (hM : zM G l y b mL ret rm (.ref a :: As) wc Post) (q0 ci : Nat) {T : u_T} {Nf : Nat} {fs : List Value} (hcl : vwCl[ci]? = some (y.cls, T, Nf)) (he : wc[q0]? = some (a, .inr (ci, fs))) {st0 : List Value} (hst : st0 = As.reverse ++ .ref a :: st) (hN : As.length = N) (hW : (st.map fun v => v.category).sum ≤ 8) (hR : zRoom R rm mL k n) (hd : decode cc pc = .ok (.invokevirtual index, 3)) : zCall p l e R s m args below meth c nL G k n pc st0 st rm wc Post := fun H locs ls hz hP hD => va_runVN (As := As) (rest := st) ⟨C.1, C.2.1, C.2.2.1, C.2.2.2.1, C.2.2.2.2.1⟩ (hM H.size) ⟨zCallN C.2.2.2.2.1 C.2.2.2.2.2.1 X.1 X.2.1 hR.1, C.2.2.2.2.1 _ X.2.2.1, C.2.2.2.2.1 _ X.2.2.2⟩ ⟨zPre_blind, va_recv C.2.2.2.2.2.1.1 hP hcl he, fun U hU hW => ⟨rfl, by rw [hU], zK.warm hW C.2.2.2.2.2.1, by rw [hU]; exact hP, hD⟩⟩ rfl hN hz hst (lv_room hW) hd hR.2
theorem z_SN (C : zC p s m args meth c cc nL own G A) {y : MethodName} {b : ByteArray} {mL N index : Nat} {ret : Option FieldType} {rm : Room} {As : List Value} {wc : va_W} {Post : Option Value → va_W → Prop} {host : String} (X : zSNok own index host y b mL ret N) (hM : zM G l y b mL ret rm As wc Post)  {st0 : List Value} (hst : st0 = As.reverse ++ st) (hN : As.length = N) (hW : (st.map fun v => v.category).sum ≤ 8) (hR : zRoom R rm mL k n) (hd : decode cc pc = .ok (.invokestatic index, 3)) : zCall p l e R s m args below meth c nL G k n pc st0 st rm wc Post := fun H locs ls hz hP hD => va_runSN (As := As) (rest := st) ⟨C.1, C.2.1, C.2.2.1, C.2.2.2.1, C.2.2.2.2.1⟩ (hM H.size) ⟨zCallN C.2.2.2.2.1 C.2.2.2.2.2.1 X.1 X.2.1 hR.1, C.2.2.2.2.1 _ X.2.2, trivial⟩ ⟨zPre_blind, fun U hU hW => ⟨rfl, by rw [hU], zK.warm hW C.2.2.2.2.2.1, by rw [hU]; exact hP, hD⟩⟩ rfl hN hz hst (lv_room hW) hd hR.2
theorem z_IN (C : zC p s m args meth c cc nL own G A) {y : MethodName} {b : ByteArray} {mL N index : Nat} {rm : Room} {As : List Value} {a : Nat} {wc : va_W} {Post : Option Value → va_W → Prop} {host : String} (X : zINok own index host y b mL N) (hM : zM G l y b mL none rm (.ref a :: As) wc Post)  {st0 : List Value} (hst : st0 = As.reverse ++ .ref a :: st) (hN : As.length = N) (hW : (st.map fun v => v.category).sum ≤ 8) (hR : zRoom R rm mL k n) (hd : decode cc pc = .ok (.invokespecial index, 3)) : zCall p l e R s m args below meth c nL G k n pc st0 st rm wc Post := fun H locs ls hz hP hD => va_runIN (As := As) (rest := st) ⟨C.1, C.2.1, C.2.2.1, C.2.2.2.1, C.2.2.2.2.1⟩ (hM H.size) ⟨zCallN C.2.2.2.2.1 C.2.2.2.2.2.1 X.1 X.2.1 hR.1, X.2.2.2, C.2.2.2.2.1 _ X.2.2.1⟩ ⟨zPre_blind, fun U hU hW => ⟨rfl, by rw [hU], zK.warm hW C.2.2.2.2.2.1, by rw [hU]; exact hP, hD⟩⟩ rfl hN hz hst (lv_room hW) hd hR.2
theorem z_go (C : zC p s m args meth c cc nL own G A) {st0 : List Value} {rm : Room} {wc : va_W} {Post : Option Value → va_W → Prop} (X : zCall p l e R s m args below meth c nL G k n pc st0 st rm wc Post) (isC isR : List Nat) (wr : va_W) (pc' : Nat) (hp : pc + 3 = pc') (hC : isC.map (fun i => w[i]?) = wc.map some) (hnC : va_nd isC = true) (hRr : isR.map (fun i => w[i]?) = wr.map some) (hn : va_nd isR = true) (hdis : ∀ i ∈ isR, i ∉ isC)
    (K : ∀ (r : Option Value) (w' : va_W), Post r w' → zV p l e R s m args below meth c nL G A Q (k + rm.cells) (n + rm.slots) (wr ++ w') pc' lv (r.toList ++ st)) : zV p l e R s m args below meth c nL G A Q k n w pc lv st0 := by
  subst hp
  intro H locs ls hP hD hS hl T hT Y
  have hFc := va_free (wc := wc) hD hS C.2.2.2.2.2.2 isC hC
  obtain ⟨v, st₀, t, T', L, h0, X', hL, e1, e2, ⟨⟨r, w', hv, hp, hP1, hD1⟩, hz, hk⟩, stp⟩ := X H locs ls hl.1 (hP.sub isC (z_fm hC)) ((hD.sub isC hnC hC).weaken (fun _ _ _ _ => trivial)) T hT Y
  cases hv
  rw [h0] at hz hk
  obtain ⟨hP2, hD2⟩ := va_join (wr := wr) (w1 := w') hP hD isC isR hC hRr hn hdis hk hFc hP1 hD1
  have hS2 : va_S A s.heap T'.heap (locs ++ L) := ⟨Nat.le_trans hS.1 (by rw [e1]; exact hz), fun q h1 h2 => by rw [e1, hk q (Nat.lt_of_lt_of_le h1 hS.1) (fun z => h2 (hFc q z))]; exact hS.2.1 q h1 h2, fun q hq => by
      rcases List.mem_append.mp hq with h | h
      · exact hS.2.2 q h
      · exact hFc _ (hL q h)⟩
  obtain ⟨t2, a1, b1⟩ := K _ w' hp T'.heap (locs ++ L) ls (by rw [e1]; exact hP2) hD2 hS2 hl T' rfl X'
  exact ⟨t2, stp t2 a1, b1⟩
/-- a call with one answer and one world: the caller's world, put in order by places -/
theorem z_goF (C : zC p s m args meth c cc nL own G A) {st0 : List Value} {dR dL : Nat} {wc wc' : va_W} {r : Option Value} (X : zCall p l e R s m args below meth c nL G k n pc st0 st (zR dR dL) wc (fun r1 w1 => r1 = r ∧ w1 = wc')) (isC isR is2 : List Nat) (wr w2 : va_W) (st2 : List Value) (pc' : Nat) (hs : r.toList ++ st = st2) (hp : pc + 3 = pc') (hC : isC.map (fun i => w[i]?) = wc.map some) (hnC : va_nd isC = true) (hRr : isR.map (fun i => w[i]?) = wr.map some) (hn : va_nd isR = true) (hdis : ∀ i ∈ isR, i ∉ isC) (h2 : is2.map (fun i => (wr ++ wc')[i]?) = w2.map some) (hn2 : va_nd is2 = true)
    (K : zV p l e R s m args below meth c nL G A Q k n w2 pc' lv st2) : zV p l e R s m args below meth c nL G A Q k n w pc lv st0 := by
  subst hs
  refine z_go C X isC isR wr pc' hp hC hnC hRr hn hdis (fun r1 w1 h => ?_)
  obtain ⟨rfl, rfl⟩ := h
  exact z_wsub is2 w2 h2 hn2 K
/-- the same, where the callee's world is the caller's -/
theorem z_goA (C : zC p s m args meth c cc nL own G A) {st0 : List Value} {dR dL : Nat} {wc' : va_W} {r : Option Value} (X : zCall p l e R s m args below meth c nL G k n pc st0 st (zR dR dL) w (fun r1 w1 => r1 = r ∧ w1 = wc')) (st2 : List Value) (pc' : Nat) (hs : r.toList ++ st = st2) (hp : pc + 3 = pc')
    (K : zV p l e R s m args below meth c nL G A Q k n wc' pc' lv st2) : zV p l e R s m args below meth c nL G A Q k n w pc lv st0 := by
  subst hp
  subst hs
  intro H locs ls hP hD hS hl T hT Y
  have hFc : ∀ q, va_A w H.size q → A q := fun q h => by
    rcases h with ⟨j, e9, h⟩ | h
    · exact hD.2 j (q, e9) h
    · exact C.2.2.2.2.2.2 q (Nat.le_trans hS.1 h)
  obtain ⟨v, st₀, t, T', L, h0, X', hL, e1, e2, ⟨⟨r1, w1, hv, ⟨hr1, hw1⟩, hP1, hD1⟩, hz, hk⟩, stp⟩ := X H locs ls hl.1 hP (hD.weaken (fun _ _ _ _ => trivial)) T hT Y
  cases hv
  subst hr1
  subst hw1
  rw [h0] at hz hk
  have hS2 : va_S A s.heap T'.heap (locs ++ L) := ⟨Nat.le_trans hS.1 (by rw [e1]; exact hz), fun q h1 h2 => by rw [e1, hk q (Nat.lt_of_lt_of_le h1 hS.1) (fun z => h2 (hFc q z))]; exact hS.2.1 q h1 h2, fun q hq => by
      rcases List.mem_append.mp hq with h | h
      · exact hS.2.2 q h
      · exact hFc _ (hL q h)⟩
  obtain ⟨t2, a1, b1⟩ := K T'.heap (locs ++ L) ls (by rw [e1]; exact hP1) (hD1.weaken (fun _ q _ h => hFc q.1 h)) hS2 hl T' rfl X'
  exact ⟨t2, stp t2 a1, b1⟩
/-- a call that reaches no cell -/
theorem z_go0 (C : zC p s m args meth c cc nL own G A) {st0 : List Value} {dR dL : Nat} {r : Option Value} (X : zCall p l e R s m args below meth c nL G k n pc st0 st (zR dR dL) [] (fun r1 w1 => r1 = r ∧ w1 = [])) (is : List Nat) (st2 : List Value) (pc' : Nat) (hs : r.toList ++ st = st2) (hp : pc + 3 = pc') (hi : is.map (fun i => w[i]?) = w.map some) (hn : va_nd is = true)
    (K : zV p l e R s m args below meth c nL G A Q k n w pc' lv st2) : zV p l e R s m args below meth c nL G A Q k n w pc lv st0 :=
  z_goF C X [] is is w w st2 pc' hs hp rfl rfl hi hn (fun _ _ h => by cases h) (by rw [List.append_nil]; exact hi) hn K
theorem z_obj (C : zC p s m args meth c cc nL own G A) {index a : Nat} (pc' : Nat) (hd : decode cc pc = .ok (.invokespecial index, 3)) (hp : pc + 3 = pc') (hl : Cond.methodLink own index objectInit ∈ zTs) (hi : Cond.instanceMethod objectInit ∈ zTs) (hc : Cond.code objectInit ⟨#[0xb1]⟩ 1 none ∈ zTs) (hf : 1 ≤ R.frames) (ho : (st.map fun v => v.category).sum + 12 ≤ R.locals) (K : zV p l e R s m args below meth c nL G A Q k n w pc' lv st) : zV p l e R s m args below meth c nL G A Q k n w pc lv (.ref a :: st) := by
  subst hp
  intro H locs ls hP hD hS hlv
  refine W.objInit C.1 C.2.1 C.2.2.2.1 (C.2.2.2.2.1 _ hl) (C.2.2.2.2.1 _ hi) (C.2.2.2.2.1 _ hc) rfl (by rw [C.2.2.1]; exact hlv.1) rfl hd hf ?_ ?_
  · show 2 * 0 + _ + 12 ≤ _
    omega
  · exact K H locs ls hP hD hS hlv
theorem z_new (C : zC p s m args meth c cc nL own G A) {index ci : Nat} {Cn : String} {T : u_T} {N : Nat} {ty0 : Nat → FieldType} {fs : List Value} (pc' : Nat) (hd : decode cc pc = .ok (.new index, 3)) (hp : pc + 3 = pc') (hc : vwCl[ci]? = some (Cn, T, N)) (hws : ∀ w ∈ u_ws Cn T N, w ∈ zTs) (hty : ∀ j, j < N → parseFieldDescriptor (T j).2.2.1 = some (ty0 j)) (hl : Cond.classLink own index Cn ∈ zTs) (hi : Cond.instantiable Cn N ∈ zTs) (hini : Cond.initialized Cn ∈ zTs) (hfs : ∀ j, j < N → defaultValue (ty0 j) = vp_V fs j) (h1 : k + 1 ≤ R.cells) (h2 : n + N ≤ R.slots)
    (K : ∀ q : Nat, zV p l e R s m args below meth c nL G A Q (k + 1) (n + N) (w ++ [(q, .inr (ci, fs))]) pc' lv (.ref q :: st)) : zV p l e R s m args below meth c nL G A Q k n w pc lv st := by
  subst hp
  intro H locs ls hP hD hS hlv
  exact va_new (D := G.1) C.1 C.2.1 C.2.2.2.2.1 hws ty0 hty C.2.2.2.1 (C.2.2.2.2.1 _ hl) (C.2.2.2.2.1 _ hi) (C.2.2.2.2.1 _ hini) C.2.2.2.2.2.1.1 hP hD hS C.2.2.2.2.2.2 hc hfs h1 h2 hd (fun q H1 hP1 hD1 hS1 => K q H1 locs ls hP1 hD1 hS1 hlv)
theorem z_newi (C : zC p s m args meth c cc nL own G A) {x : Int32} {len : Nat} (pc' : Nat) (hd : decode cc pc = .ok (.newarray .int, 2)) (hp : pc + 2 = pc') (ht : (zTy G.2)[0]? = some (G.2 0, .int)) (har : Cond.arrayClass .int ∈ zTs) (hx : ¬ x < 0) (hlen : x.toNatClampNeg = len) (hby : len * 4 ≤ 536870912) (h1 : k + 1 ≤ R.cells) (h2 : n + len ≤ R.slots)
    (K : ∀ q : Nat, zV p l e R s m args below meth c nL G A Q (k + 1) (n + len) (w ++ [(q, .inl (G.2 0, len, .inl (fun _ => 0)))]) pc' lv (.ref q :: st)) : zV p l e R s m args below meth c nL G A Q k n w pc lv (.int x :: st) := by
  subst hp
  intro H locs ls hP hD hS hlv
  refine va_newa (atype := .int) (ty := .int) (a0 := (len, .inl (fun _ => 0))) C.1 C.2.1 (C.2.2.2.2.1 _ har) rfl C.2.2.2.2.2.1.1 hP hD hS C.2.2.2.2.2.2 (fun cA => rfl) hx hlen hby h1 h2 hd (fun q cA H1 hK1 hP1 hD1 hS1 => ?_)
  have e1 : va_RA s cA .int := (hK1.2 _ (cA, .int) List.getElem?_concat_length).2
  have e2 : va_RA s (G.2 0) .int := (C.2.2.2.2.2.1.1.2 0 _ ht).2
  have e3 : cA = G.2 0 := Option.some.inj (e1.symm.trans e2)
  subst e3
  exact K q H1 locs ls hP1 hD1 hS1 hlv
theorem z_newb (C : zC p s m args meth c cc nL own G A) {x : Int32} {len : Nat} (pc' : Nat) (hd : decode cc pc = .ok (.newarray .byte, 2)) (hp : pc + 2 = pc') (ht : (zTy G.2)[1]? = some (G.2 1, .byte)) (har : Cond.arrayClass .byte ∈ zTs) (hx : ¬ x < 0) (hlen : x.toNatClampNeg = len) (hby : len * 1 ≤ 536870912) (h1 : k + 1 ≤ R.cells) (h2 : n + len ≤ R.slots)
    (K : ∀ q : Nat, zV p l e R s m args below meth c nL G A Q (k + 1) (n + len) (w ++ [(q, .inl (G.2 1, len, .inl (fun _ => 0)))]) pc' lv (.ref q :: st)) : zV p l e R s m args below meth c nL G A Q k n w pc lv (.int x :: st) := by
  subst hp
  intro H locs ls hP hD hS hlv
  refine va_newa (atype := .byte) (ty := .byte) (a0 := (len, .inl (fun _ => 0))) C.1 C.2.1 (C.2.2.2.2.1 _ har) rfl C.2.2.2.2.2.1.1 hP hD hS C.2.2.2.2.2.2 (fun cA => rfl) hx hlen hby h1 h2 hd (fun q cA H1 hK1 hP1 hD1 hS1 => ?_)
  have e1 : va_RA s cA .byte := (hK1.2 _ (cA, .byte) List.getElem?_concat_length).2
  have e2 : va_RA s (G.2 1) .byte := (C.2.2.2.2.2.1.1.2 1 _ ht).2
  have e3 : cA = G.2 1 := Option.some.inj (e1.symm.trans e2)
  subst e3
  exact K q H1 locs ls hP1 hD1 hS1 hlv
theorem z_sld (C : zC p s m args meth c cc nL own G A) {b L : Nat} {xs : Nat → Int32} (hX : va_X b L xs s s.heap) (hbl : b < s.heap.size) (hbA : ¬ A b) {i : Int32} (pc' : Nat) (hd : decode cc pc = .ok (.iaload, 1)) (hp : pc + 1 = pc') (hin : vp_in i L) (K : zV p l e R s m args below meth c nL G A Q k n w pc' lv (.int (xs i.toNatClampNeg) :: st)) : zV p l e R s m args below meth c nL G A Q k n w pc lv (.int i :: .ref b :: st) := by
  subst hp
  intro H locs ls hP hD hS hl
  exact va_sld C.1 C.2.1 hX hbl hbA hS hin hd (K H locs ls hP hD hS hl)
theorem z_slen (C : zC p s m args meth c cc nL own G A) {b L : Nat} {xs : Nat → Int32} (hX : va_X b L xs s s.heap) (hbl : b < s.heap.size) (hbA : ¬ A b) (pc' : Nat) (hd : decode cc pc = .ok (.arraylength, 1)) (hp : pc + 1 = pc') (K : zV p l e R s m args below meth c nL G A Q k n w pc' lv (.int (Int32.ofNat L) :: st)) : zV p l e R s m args below meth c nL G A Q k n w pc lv (.ref b :: st) := by
  subst hp
  intro H locs ls hP hD hS hl
  exact va_slen C.1 C.2.1 hX hbl hbA hS hd (K H locs ls hP hD hS hl)
end ZLAYER
end
section
theorem kw_K : ∀ w ∈ u_ws N_K T_K 7, w ∈ zTs := by
  intro w hw
  obtain ⟨j, hj, rfl⟩ := List.mem_map.mp hw
  have hj := List.mem_range.mp hj
  rcases (show j = 0 ∨ j = 1 ∨ j = 2 ∨ j = 3 ∨ j = 4 ∨ j = 5 ∨ j = 6 by omega) with rfl | rfl | rfl | rfl | rfl | rfl | rfl
  · exact zTs_at 60 (by decide +kernel) (by decide +kernel)
  · exact zTs_at 62 (by decide +kernel) (by decide +kernel)
  · exact zTs_at 64 (by decide +kernel) (by decide +kernel)
  · exact zTs_at 66 (by decide +kernel) (by decide +kernel)
  · exact zTs_at 68 (by decide +kernel) (by decide +kernel)
  · exact zTs_at 70 (by decide +kernel) (by decide +kernel)
  · exact zTs_at 72 (by decide +kernel) (by decide +kernel)
theorem kt_K : ∀ j, j < 7 → parseFieldDescriptor (T_K j).2.2.1 = some (t_K j) := by decide +kernel
theorem kp_K : zPok N_K T_K 7 t_K := ⟨kt_K, by decide +kernel⟩
theorem kw_R : ∀ w ∈ u_ws N_R T_R 2, w ∈ zTs := by
  intro w hw
  obtain ⟨j, hj, rfl⟩ := List.mem_map.mp hw
  have hj := List.mem_range.mp hj
  rcases (show j = 0 ∨ j = 1 by omega) with rfl | rfl
  · exact zTs_at 84 (by decide +kernel) (by decide +kernel)
  · exact zTs_at 86 (by decide +kernel) (by decide +kernel)
theorem kt_R : ∀ j, j < 2 → parseFieldDescriptor (T_R j).2.2.1 = some (t_R j) := by decide +kernel
theorem kp_R : zPok N_R T_R 2 t_R := ⟨kt_R, by decide +kernel⟩
theorem kw_D : ∀ w ∈ u_ws N_D T_D 7, w ∈ zTs := by
  intro w hw
  obtain ⟨j, hj, rfl⟩ := List.mem_map.mp hw
  have hj := List.mem_range.mp hj
  rcases (show j = 0 ∨ j = 1 ∨ j = 2 ∨ j = 3 ∨ j = 4 ∨ j = 5 ∨ j = 6 by omega) with rfl | rfl | rfl | rfl | rfl | rfl | rfl
  · exact zTs_at 96 (by decide +kernel) (by decide +kernel)
  · exact zTs_at 98 (by decide +kernel) (by decide +kernel)
  · exact zTs_at 100 (by decide +kernel) (by decide +kernel)
  · exact zTs_at 102 (by decide +kernel) (by decide +kernel)
  · exact zTs_at 104 (by decide +kernel) (by decide +kernel)
  · exact zTs_at 106 (by decide +kernel) (by decide +kernel)
  · exact zTs_at 108 (by decide +kernel) (by decide +kernel)
theorem kt_D : ∀ j, j < 7 → parseFieldDescriptor (T_D j).2.2.1 = some (t_D j) := by decide +kernel
theorem kp_D : zPok N_D T_D 7 t_D := ⟨kt_D, by decide +kernel⟩
theorem kw_M : ∀ w ∈ u_ws N_M T_M 11, w ∈ zTs := by
  intro w hw
  obtain ⟨j, hj, rfl⟩ := List.mem_map.mp hw
  have hj := List.mem_range.mp hj
  rcases (show j = 0 ∨ j = 1 ∨ j = 2 ∨ j = 3 ∨ j = 4 ∨ j = 5 ∨ j = 6 ∨ j = 7 ∨ j = 8 ∨ j = 9 ∨ j = 10 by omega) with rfl | rfl | rfl | rfl | rfl | rfl | rfl | rfl | rfl | rfl | rfl
  · exact zTs_at 340 (by decide +kernel) (by decide +kernel)
  · exact zTs_at 342 (by decide +kernel) (by decide +kernel)
  · exact zTs_at 344 (by decide +kernel) (by decide +kernel)
  · exact zTs_at 346 (by decide +kernel) (by decide +kernel)
  · exact zTs_at 348 (by decide +kernel) (by decide +kernel)
  · exact zTs_at 350 (by decide +kernel) (by decide +kernel)
  · exact zTs_at 352 (by decide +kernel) (by decide +kernel)
  · exact zTs_at 354 (by decide +kernel) (by decide +kernel)
  · exact zTs_at 356 (by decide +kernel) (by decide +kernel)
  · exact zTs_at 358 (by decide +kernel) (by decide +kernel)
  · exact zTs_at 360 (by decide +kernel) (by decide +kernel)
theorem kt_M : ∀ j, j < 11 → parseFieldDescriptor (T_M j).2.2.1 = some (t_M j) := by decide +kernel
theorem kp_M : zPok N_M T_M 11 t_M := ⟨kt_M, by decide +kernel⟩
theorem kf_K_9 : zFok N_K 9 0 0 N_K T_K 7 := ⟨rfl, by decide, kw_K, zTs_at 53 (by decide +kernel) (by decide +kernel)⟩
theorem kf_K_15 : zFok N_K 15 0 1 N_K T_K 7 := ⟨rfl, by decide, kw_K, zTs_at 54 (by decide +kernel) (by decide +kernel)⟩
theorem kf_K_18 : zFok N_K 18 0 2 N_K T_K 7 := ⟨rfl, by decide, kw_K, zTs_at 55 (by decide +kernel) (by decide +kernel)⟩
theorem kf_K_21 : zFok N_K 21 0 3 N_K T_K 7 := ⟨rfl, by decide, kw_K, zTs_at 56 (by decide +kernel) (by decide +kernel)⟩
theorem kf_K_25 : zFok N_K 25 0 4 N_K T_K 7 := ⟨rfl, by decide, kw_K, zTs_at 57 (by decide +kernel) (by decide +kernel)⟩
theorem kf_K_29 : zFok N_K 29 0 5 N_K T_K 7 := ⟨rfl, by decide, kw_K, zTs_at 58 (by decide +kernel) (by decide +kernel)⟩
theorem kf_K_32 : zFok N_K 32 0 6 N_K T_K 7 := ⟨rfl, by decide, kw_K, zTs_at 59 (by decide +kernel) (by decide +kernel)⟩
theorem kf_R_9 : zFok N_R 9 1 0 N_R T_R 2 := ⟨rfl, by decide, kw_R, zTs_at 82 (by decide +kernel) (by decide +kernel)⟩
theorem kf_R_15 : zFok N_R 15 1 1 N_R T_R 2 := ⟨rfl, by decide, kw_R, zTs_at 83 (by decide +kernel) (by decide +kernel)⟩
theorem kf_D_36 : zFok N_D 36 2 0 N_D T_D 7 := ⟨rfl, by decide, kw_D, zTs_at 89 (by decide +kernel) (by decide +kernel)⟩
theorem kf_D_12 : zFok N_D 12 2 1 N_D T_D 7 := ⟨rfl, by decide, kw_D, zTs_at 90 (by decide +kernel) (by decide +kernel)⟩
theorem kf_D_16 : zFok N_D 16 2 2 N_D T_D 7 := ⟨rfl, by decide, kw_D, zTs_at 91 (by decide +kernel) (by decide +kernel)⟩
theorem kf_D_19 : zFok N_D 19 2 3 N_D T_D 7 := ⟨rfl, by decide, kw_D, zTs_at 92 (by decide +kernel) (by decide +kernel)⟩
theorem kf_D_25 : zFok N_D 25 2 4 N_D T_D 7 := ⟨rfl, by decide, kw_D, zTs_at 93 (by decide +kernel) (by decide +kernel)⟩
theorem kf_D_29 : zFok N_D 29 2 5 N_D T_D 7 := ⟨rfl, by decide, kw_D, zTs_at 94 (by decide +kernel) (by decide +kernel)⟩
theorem kf_D_32 : zFok N_D 32 2 6 N_D T_D 7 := ⟨rfl, by decide, kw_D, zTs_at 95 (by decide +kernel) (by decide +kernel)⟩
theorem kf_M_28 : zFok N_M 28 3 0 N_M T_M 11 := ⟨rfl, by decide, kw_M, zTs_at 329 (by decide +kernel) (by decide +kernel)⟩
theorem kf_M_24 : zFok N_M 24 3 1 N_M T_M 11 := ⟨rfl, by decide, kw_M, zTs_at 330 (by decide +kernel) (by decide +kernel)⟩
theorem kf_M_31 : zFok N_M 31 3 2 N_M T_M 11 := ⟨rfl, by decide, kw_M, zTs_at 331 (by decide +kernel) (by decide +kernel)⟩
theorem kf_M_9 : zFok N_M 9 3 3 N_M T_M 11 := ⟨rfl, by decide, kw_M, zTs_at 332 (by decide +kernel) (by decide +kernel)⟩
theorem kf_M_65 : zFok N_M 65 3 4 N_M T_M 11 := ⟨rfl, by decide, kw_M, zTs_at 333 (by decide +kernel) (by decide +kernel)⟩
theorem kf_M_13 : zFok N_M 13 3 5 N_M T_M 11 := ⟨rfl, by decide, kw_M, zTs_at 334 (by decide +kernel) (by decide +kernel)⟩
theorem kf_M_17 : zFok N_M 17 3 6 N_M T_M 11 := ⟨rfl, by decide, kw_M, zTs_at 335 (by decide +kernel) (by decide +kernel)⟩
theorem kf_M_76 : zFok N_M 76 3 7 N_M T_M 11 := ⟨rfl, by decide, kw_M, zTs_at 336 (by decide +kernel) (by decide +kernel)⟩
theorem kf_M_79 : zFok N_M 79 3 8 N_M T_M 11 := ⟨rfl, by decide, kw_M, zTs_at 337 (by decide +kernel) (by decide +kernel)⟩
theorem kf_M_21 : zFok N_M 21 3 9 N_M T_M 11 := ⟨rfl, by decide, kw_M, zTs_at 338 (by decide +kernel) (by decide +kernel)⟩
theorem kf_M_86 : zFok N_M 86 3 10 N_M T_M 11 := ⟨rfl, by decide, kw_M, zTs_at 339 (by decide +kernel) (by decide +kernel)⟩
theorem kk_K_43 : Cond.constantLong N_K 43 (1000003) ∈ zTs := zTs_at 123 (by decide +kernel) (by decide +kernel)
theorem kk_K_45 : Cond.constantLong N_K 45 (101) ∈ zTs := zTs_at 124 (by decide +kernel) (by decide +kernel)
theorem kk_K_102 : Cond.constantLong N_K 102 (6364136223846793005) ∈ zTs := zTs_at 145 (by decide +kernel) (by decide +kernel)
theorem kk_K_104 : Cond.constantLong N_K 104 (1442695040888963407) ∈ zTs := zTs_at 146 (by decide +kernel) (by decide +kernel)
theorem kk_J_265 : Cond.constant N_J 265 (1431655765) ∈ zTs := zTs_at 297 (by decide +kernel) (by decide +kernel)
theorem kk_J_266 : Cond.constant N_J 266 (858993459) ∈ zTs := zTs_at 298 (by decide +kernel) (by decide +kernel)
theorem kk_J_267 : Cond.constant N_J 267 (252645135) ∈ zTs := zTs_at 299 (by decide +kernel) (by decide +kernel)
theorem kk_M_53 : Cond.constantLong N_M 53 (1000003) ∈ zTs := zTs_at 378 (by decide +kernel) (by decide +kernel)
theorem kk_M_55 : Cond.constantLong N_M 55 (101) ∈ zTs := zTs_at 379 (by decide +kernel) (by decide +kernel)
theorem kk_M_34 : Cond.constantLong N_M 34 (6364136223846793005) ∈ zTs := zTs_at 395 (by decide +kernel) (by decide +kernel)
theorem kk_M_36 : Cond.constantLong N_M 36 (1442695040888963407) ∈ zTs := zTs_at 396 (by decide +kernel) (by decide +kernel)
theorem kk_L_67 : Cond.constantLong N_L 67 (4294967295) ∈ zTs := zTs_at 468 (by decide +kernel) (by decide +kernel)
theorem kb_D_init : zBok y_D_init b_D_init 3 (none) 1 := ⟨zTs_at 43 rfl rfl, zTs_at 34 (by decide +kernel) (by decide +kernel), by decide +kernel, by decide +kernel, by decide +kernel⟩
theorem ko_c : Cond.code objectInit ⟨#[0xb1]⟩ 1 none ∈ zTs := zTs_at 46 rfl rfl
theorem ko_i : Cond.instanceMethod objectInit ∈ zTs := zTs_at 45 (by decide +kernel) (by decide +kernel)
theorem kb_K_init : zBok y_K_init b_K_init 1 (none) 0 := ⟨zTs_at 51 rfl rfl, zTs_at 35 (by decide +kernel) (by decide +kernel), by decide +kernel, by decide +kernel, by decide +kernel⟩
theorem kb_R_init : zBok y_R_init b_R_init 1 (none) 0 := ⟨zTs_at 80 rfl rfl, zTs_at 36 (by decide +kernel) (by decide +kernel), by decide +kernel, by decide +kernel, by decide +kernel⟩
theorem kb_D_draw : zBok y_D_draw b_D_draw 3 (some .int) 2 := ⟨zTs_at 114 rfl rfl, zTs_at 34 (by decide +kernel) (by decide +kernel), by decide +kernel, by decide +kernel, by decide +kernel⟩
theorem kb_D_canBeDrawn : zBok y_D_canBeDrawn b_D_canBeDrawn 2 (some .boolean) 2 := ⟨zTs_at 117 rfl rfl, zTs_at 34 (by decide +kernel) (by decide +kernel), by decide +kernel, by decide +kernel, by decide +kernel⟩
theorem kb_K_fill : zBok y_K_fill b_K_fill 6 (none) 3 := ⟨zTs_at 121 rfl rfl, zTs_at 35 (by decide +kernel) (by decide +kernel), by decide +kernel, by decide +kernel, by decide +kernel⟩
theorem kb_K_fillPart : zBok y_K_fillPart b_K_fillPart 2 (none) 1 := ⟨zTs_at 128 rfl rfl, zTs_at 35 (by decide +kernel) (by decide +kernel), by decide +kernel, by decide +kernel, by decide +kernel⟩
theorem kb_K_fillRecord : zBok y_K_fillRecord b_K_fillRecord 6 (none) 1 := ⟨zTs_at 132 rfl rfl, zTs_at 35 (by decide +kernel) (by decide +kernel), by decide +kernel, by decide +kernel, by decide +kernel⟩
theorem kb_K_startTitle : zBok y_K_startTitle b_K_startTitle 2 (none) 1 := ⟨zTs_at 136 rfl rfl, zTs_at 35 (by decide +kernel) (by decide +kernel), by decide +kernel, by decide +kernel, by decide +kernel⟩
theorem kb_K_has : zBok y_K_has b_K_has 2 (some .boolean) 1 := ⟨zTs_at 140 rfl rfl, zTs_at 35 (by decide +kernel) (by decide +kernel), by decide +kernel, by decide +kernel, by decide +kernel⟩
theorem kb_K_next : zBok y_K_next b_K_next 3 (some .int) 1 := ⟨zTs_at 144 rfl rfl, zTs_at 35 (by decide +kernel) (by decide +kernel), by decide +kernel, by decide +kernel, by decide +kernel⟩
theorem kb_K_put : zBok y_K_put b_K_put 5 (none) 4 := ⟨zTs_at 150 rfl rfl, zTs_at 35 (by decide +kernel) (by decide +kernel), by decide +kernel, by decide +kernel, by decide +kernel⟩
theorem kb_K_addSign : zBok y_K_addSign b_K_addSign 2 (none) 1 := ⟨zTs_at 154 rfl rfl, zTs_at 35 (by decide +kernel) (by decide +kernel), by decide +kernel, by decide +kernel, by decide +kernel⟩
theorem kb_K_number : zBok y_K_number b_K_number 3 (some .int) 2 := ⟨zTs_at 158 rfl rfl, zTs_at 35 (by decide +kernel) (by decide +kernel), by decide +kernel, by decide +kernel, by decide +kernel⟩
theorem kb_K_repeatTitle : zBok y_K_repeatTitle b_K_repeatTitle 4 (none) 1 := ⟨zTs_at 162 rfl rfl, zTs_at 35 (by decide +kernel) (by decide +kernel), by decide +kernel, by decide +kernel, by decide +kernel⟩
theorem kb_K_sign : zBok y_K_sign b_K_sign 2 (some .int) 1 := ⟨zTs_at 166 rfl rfl, zTs_at 35 (by decide +kernel) (by decide +kernel), by decide +kernel, by decide +kernel, by decide +kernel⟩
theorem kb_K_fillFile : zBok y_K_fillFile b_K_fillFile 2 (none) 1 := ⟨zTs_at 170 rfl rfl, zTs_at 35 (by decide +kernel) (by decide +kernel), by decide +kernel, by decide +kernel, by decide +kernel⟩
theorem kb_K_fillFileWithWinner : zBok y_K_fillFileWithWinner b_K_fillFileWithWinner 8 (none) 1 := ⟨zTs_at 174 rfl rfl, zTs_at 35 (by decide +kernel) (by decide +kernel), by decide +kernel, by decide +kernel, by decide +kernel⟩
theorem kb_K_fillFileWithoutWinner : zBok y_K_fillFileWithoutWinner b_K_fillFileWithoutWinner 6 (none) 1 := ⟨zTs_at 178 rfl rfl, zTs_at 35 (by decide +kernel) (by decide +kernel), by decide +kernel, by decide +kernel, by decide +kernel⟩
theorem kb_K_fillPattern : zBok y_K_fillPattern b_K_fillPattern 5 (none) 1 := ⟨zTs_at 182 rfl rfl, zTs_at 35 (by decide +kernel) (by decide +kernel), by decide +kernel, by decide +kernel, by decide +kernel⟩
theorem kb_K_fillLine : zBok y_K_fillLine b_K_fillLine 5 (none) 1 := ⟨zTs_at 186 rfl rfl, zTs_at 35 (by decide +kernel) (by decide +kernel), by decide +kernel, by decide +kernel, by decide +kernel⟩
theorem kb_K_fillReader : zBok y_K_fillReader b_K_fillReader 4 (none) 1 := ⟨zTs_at 190 rfl rfl, zTs_at 35 (by decide +kernel) (by decide +kernel), by decide +kernel, by decide +kernel, by decide +kernel⟩
theorem kb_K_fillAct : zBok y_K_fillAct b_K_fillAct 4 (none) 1 := ⟨zTs_at 194 rfl rfl, zTs_at 35 (by decide +kernel) (by decide +kernel), by decide +kernel, by decide +kernel, by decide +kernel⟩
theorem kb_K_timeBefore : zBok y_K_timeBefore b_K_timeBefore 2 (some .int) 1 := ⟨zTs_at 198 rfl rfl, zTs_at 35 (by decide +kernel) (by decide +kernel), by decide +kernel, by decide +kernel, by decide +kernel⟩
theorem kb_R_clear : zBok y_R_clear b_R_clear 1 (none) 0 := ⟨zTs_at 202 rfl rfl, zTs_at 36 (by decide +kernel) (by decide +kernel), by decide +kernel, by decide +kernel, by decide +kernel⟩
theorem kb_K_allParts : zBok y_K_allParts b_K_allParts 1 (some .int) 0 := ⟨zTs_at 206 rfl rfl, zTs_at 35 (by decide +kernel) (by decide +kernel), by decide +kernel, by decide +kernel, by decide +kernel⟩
theorem kb_K_count : zBok y_K_count b_K_count 1 (some .int) 0 := ⟨zTs_at 210 rfl rfl, zTs_at 35 (by decide +kernel) (by decide +kernel), by decide +kernel, by decide +kernel, by decide +kernel⟩
theorem kb_D_part : zBok y_D_part b_D_part 3 (some .int) 2 := ⟨zTs_at 214 rfl rfl, zTs_at 34 (by decide +kernel) (by decide +kernel), by decide +kernel, by decide +kernel, by decide +kernel⟩
theorem kb_D_letter : zBok y_D_letter b_D_letter 2 (some .int) 1 := ⟨zTs_at 219 rfl rfl, zTs_at 34 (by decide +kernel) (by decide +kernel), by decide +kernel, by decide +kernel, by decide +kernel⟩
theorem kb_D_majority : zBok y_D_majority b_D_majority 2 (some .int) 1 := ⟨zTs_at 224 rfl rfl, zTs_at 34 (by decide +kernel) (by decide +kernel), by decide +kernel, by decide +kernel, by decide +kernel⟩
theorem kb_K_winner : zBok y_K_winner b_K_winner 3 (some .int) 1 := ⟨zTs_at 228 rfl rfl, zTs_at 35 (by decide +kernel) (by decide +kernel), by decide +kernel, by decide +kernel, by decide +kernel⟩
theorem kb_K_votes : zBok y_K_votes b_K_votes 8 (some .int) 2 := ⟨zTs_at 232 rfl rfl, zTs_at 35 (by decide +kernel) (by decide +kernel), by decide +kernel, by decide +kernel, by decide +kernel⟩
theorem kb_D_ends : zBok y_D_ends b_D_ends 2 (some .boolean) 1 := ⟨zTs_at 236 rfl rfl, zTs_at 34 (by decide +kernel) (by decide +kernel), by decide +kernel, by decide +kernel, by decide +kernel⟩
theorem kb_K_isPattern : zBok y_K_isPattern b_K_isPattern 2 (some .boolean) 1 := ⟨zTs_at 240 rfl rfl, zTs_at 35 (by decide +kernel) (by decide +kernel), by decide +kernel, by decide +kernel, by decide +kernel⟩
theorem kb_K_lastDay : zBok y_K_lastDay b_K_lastDay 2 (some .int) 1 := ⟨zTs_at 244 rfl rfl, zTs_at 35 (by decide +kernel) (by decide +kernel), by decide +kernel, by decide +kernel, by decide +kernel⟩
theorem kb_D_planted : zBok y_D_planted b_D_planted 4 (some .int) 1 := ⟨zTs_at 248 rfl rfl, zTs_at 34 (by decide +kernel) (by decide +kernel), by decide +kernel, by decide +kernel, by decide +kernel⟩
theorem kb_K_shows : zBok y_K_shows b_K_shows 3 (some .boolean) 2 := ⟨zTs_at 252 rfl rfl, zTs_at 35 (by decide +kernel) (by decide +kernel), by decide +kernel, by decide +kernel, by decide +kernel⟩
theorem kb_D_verdict : zBok y_D_verdict b_D_verdict 4 (none) 2 := ⟨zTs_at 259 rfl rfl, zTs_at 34 (by decide +kernel) (by decide +kernel), by decide +kernel, by decide +kernel, by decide +kernel⟩
theorem kb_R_add : zBok y_R_add b_R_add 2 (none) 1 := ⟨zTs_at 263 rfl rfl, zTs_at 36 (by decide +kernel) (by decide +kernel), by decide +kernel, by decide +kernel, by decide +kernel⟩
theorem kb_D_shorter : zBok y_D_shorter b_D_shorter 1 (some .int) 0 := ⟨zTs_at 267 rfl rfl, zTs_at 34 (by decide +kernel) (by decide +kernel), by decide +kernel, by decide +kernel, by decide +kernel⟩
theorem kb_D_smallerCase : zBok y_D_smallerCase b_D_smallerCase 5 (some .int) 1 := ⟨zTs_at 271 rfl rfl, zTs_at 34 (by decide +kernel) (by decide +kernel), by decide +kernel, by decide +kernel, by decide +kernel⟩
theorem kb_D_staysFor : zBok y_D_staysFor b_D_staysFor 2 (some .boolean) 1 := ⟨zTs_at 275 rfl rfl, zTs_at 34 (by decide +kernel) (by decide +kernel), by decide +kernel, by decide +kernel, by decide +kernel⟩
theorem kb_R_oneIsWithin : zBok y_R_oneIsWithin b_R_oneIsWithin 3 (some .boolean) 1 := ⟨zTs_at 279 rfl rfl, zTs_at 36 (by decide +kernel) (by decide +kernel), by decide +kernel, by decide +kernel, by decide +kernel⟩
theorem kb_R_oneIsTornBy : zBok y_R_oneIsTornBy b_R_oneIsTornBy 4 (some .boolean) 1 := ⟨zTs_at 283 rfl rfl, zTs_at 36 (by decide +kernel) (by decide +kernel), by decide +kernel, by decide +kernel, by decide +kernel⟩
theorem kb_D_afterOneGoing : zBok y_D_afterOneGoing b_D_afterOneGoing 4 (some .int) 1 := ⟨zTs_at 287 rfl rfl, zTs_at 34 (by decide +kernel) (by decide +kernel), by decide +kernel, by decide +kernel, by decide +kernel⟩
theorem kb_D_isIn : zBok y_D_isIn b_D_isIn 2 (some .boolean) 2 := ⟨zTs_at 290 rfl rfl, zTs_at 34 (by decide +kernel) (by decide +kernel), by decide +kernel, by decide +kernel, by decide +kernel⟩
theorem kb_D_without : zBok y_D_without b_D_without 2 (some .int) 2 := ⟨zTs_at 293 rfl rfl, zTs_at 34 (by decide +kernel) (by decide +kernel), by decide +kernel, by decide +kernel, by decide +kernel⟩
theorem kb_J_bitCount : zBok y_J_bitCount b_J_bitCount 1 (some .int) 1 := ⟨zTs_at 296 rfl rfl, zTs_at 38 (by decide +kernel) (by decide +kernel), by decide +kernel, by decide +kernel, by decide +kernel⟩
theorem kb_D_left : zBok y_D_left b_D_left 4 (some .int) 1 := ⟨zTs_at 303 rfl rfl, zTs_at 34 (by decide +kernel) (by decide +kernel), by decide +kernel, by decide +kernel, by decide +kernel⟩
theorem kb_D_minimal : zBok y_D_minimal b_D_minimal 2 (some .boolean) 0 := ⟨zTs_at 307 rfl rfl, zTs_at 34 (by decide +kernel) (by decide +kernel), by decide +kernel, by decide +kernel, by decide +kernel⟩
theorem kb_D_same : zBok y_D_same b_D_same 5 (some .boolean) 3 := ⟨zTs_at 311 rfl rfl, zTs_at 34 (by decide +kernel) (by decide +kernel), by decide +kernel, by decide +kernel, by decide +kernel⟩
theorem kb_D_sameParts : zBok y_D_sameParts b_D_sameParts 3 (some .boolean) 0 := ⟨zTs_at 315 rfl rfl, zTs_at 34 (by decide +kernel) (by decide +kernel), by decide +kernel, by decide +kernel, by decide +kernel⟩
theorem kb_D_sameSigns : zBok y_D_sameSigns b_D_sameSigns 2 (some .boolean) 0 := ⟨zTs_at 319 rfl rfl, zTs_at 34 (by decide +kernel) (by decide +kernel), by decide +kernel, by decide +kernel, by decide +kernel⟩
theorem kb_L_cell : zBok y_L_cell b_L_cell 2 (some .int) 2 := ⟨zTs_at 322 rfl rfl, zTs_at 33 (by decide +kernel) (by decide +kernel), by decide +kernel, by decide +kernel, by decide +kernel⟩
theorem kb_M_init : zBok y_M_init b_M_init 3 (none) 1 := ⟨zTs_at 327 rfl rfl, zTs_at 37 (by decide +kernel) (by decide +kernel), by decide +kernel, by decide +kernel, by decide +kernel⟩
theorem kb_M_draw : zBok y_M_draw b_M_draw 3 (some .int) 2 := ⟨zTs_at 367 rfl rfl, zTs_at 37 (by decide +kernel) (by decide +kernel), by decide +kernel, by decide +kernel, by decide +kernel⟩
theorem kb_M_can : zBok y_M_can b_M_can 2 (some .boolean) 2 := ⟨zTs_at 370 rfl rfl, zTs_at 37 (by decide +kernel) (by decide +kernel), by decide +kernel, by decide +kernel, by decide +kernel⟩
theorem kb_M_in : zBok y_M_in b_M_in 3 (some .boolean) 3 := ⟨zTs_at 373 rfl rfl, zTs_at 37 (by decide +kernel) (by decide +kernel), by decide +kernel, by decide +kernel, by decide +kernel⟩
theorem kb_M_draws : zBok y_M_draws b_M_draws 7 (none) 4 := ⟨zTs_at 377 rfl rfl, zTs_at 37 (by decide +kernel) (by decide +kernel), by decide +kernel, by decide +kernel, by decide +kernel⟩
theorem kb_M_part4 : zBok y_M_part4 b_M_part4 6 (none) 4 := ⟨zTs_at 383 rfl rfl, zTs_at 37 (by decide +kernel) (by decide +kernel), by decide +kernel, by decide +kernel, by decide +kernel⟩
theorem kb_M_at : zBok y_M_at b_M_at 2 (some .int) 2 := ⟨zTs_at 386 rfl rfl, zTs_at 37 (by decide +kernel) (by decide +kernel), by decide +kernel, by decide +kernel, by decide +kernel⟩
theorem kb_M_record : zBok y_M_record b_M_record 6 (none) 2 := ⟨zTs_at 390 rfl rfl, zTs_at 37 (by decide +kernel) (by decide +kernel), by decide +kernel, by decide +kernel, by decide +kernel⟩
theorem kb_M_next : zBok y_M_next b_M_next 2 (some .int) 1 := ⟨zTs_at 394 rfl rfl, zTs_at 37 (by decide +kernel) (by decide +kernel), by decide +kernel, by decide +kernel, by decide +kernel⟩
theorem kb_M_file : zBok y_M_file b_M_file 9 (none) 2 := ⟨zTs_at 400 rfl rfl, zTs_at 37 (by decide +kernel) (by decide +kernel), by decide +kernel, by decide +kernel, by decide +kernel⟩
theorem kb_M_all : zBok y_M_all b_M_all 1 (some .int) 0 := ⟨zTs_at 404 rfl rfl, zTs_at 37 (by decide +kernel) (by decide +kernel), by decide +kernel, by decide +kernel, by decide +kernel⟩
theorem kb_M_part : zBok y_M_part b_M_part 3 (some .int) 2 := ⟨zTs_at 408 rfl rfl, zTs_at 37 (by decide +kernel) (by decide +kernel), by decide +kernel, by decide +kernel, by decide +kernel⟩
theorem kb_M_isPart : zBok y_M_isPart b_M_isPart 2 (some .boolean) 1 := ⟨zTs_at 412 rfl rfl, zTs_at 37 (by decide +kernel) (by decide +kernel), by decide +kernel, by decide +kernel, by decide +kernel⟩
theorem kb_M_letter : zBok y_M_letter b_M_letter 5 (some .int) 1 := ⟨zTs_at 416 rfl rfl, zTs_at 37 (by decide +kernel) (by decide +kernel), by decide +kernel, by decide +kernel, by decide +kernel⟩
theorem kb_M_majority : zBok y_M_majority b_M_majority 2 (some .int) 1 := ⟨zTs_at 420 rfl rfl, zTs_at 37 (by decide +kernel) (by decide +kernel), by decide +kernel, by decide +kernel, by decide +kernel⟩
theorem kb_M_wins : zBok y_M_wins b_M_wins 6 (some .int) 1 := ⟨zTs_at 424 rfl rfl, zTs_at 37 (by decide +kernel) (by decide +kernel), by decide +kernel, by decide +kernel, by decide +kernel⟩
theorem kb_M_ends : zBok y_M_ends b_M_ends 2 (some .boolean) 1 := ⟨zTs_at 428 rfl rfl, zTs_at 37 (by decide +kernel) (by decide +kernel), by decide +kernel, by decide +kernel, by decide +kernel⟩
theorem kb_M_lastDay : zBok y_M_lastDay b_M_lastDay 2 (some .int) 1 := ⟨zTs_at 432 rfl rfl, zTs_at 37 (by decide +kernel) (by decide +kernel), by decide +kernel, by decide +kernel, by decide +kernel⟩
theorem kb_M_planted : zBok y_M_planted b_M_planted 4 (some .int) 1 := ⟨zTs_at 436 rfl rfl, zTs_at 37 (by decide +kernel) (by decide +kernel), by decide +kernel, by decide +kernel, by decide +kernel⟩
theorem kb_M_isPlanted : zBok y_M_isPlanted b_M_isPlanted 3 (some .boolean) 2 := ⟨zTs_at 440 rfl rfl, zTs_at 37 (by decide +kernel) (by decide +kernel), by decide +kernel, by decide +kernel, by decide +kernel⟩
theorem kb_M_verdict : zBok y_M_verdict b_M_verdict 3 (none) 2 := ⟨zTs_at 444 rfl rfl, zTs_at 37 (by decide +kernel) (by decide +kernel), by decide +kernel, by decide +kernel, by decide +kernel⟩
theorem kb_M_shorter : zBok y_M_shorter b_M_shorter 3 (some .int) 0 := ⟨zTs_at 448 rfl rfl, zTs_at 37 (by decide +kernel) (by decide +kernel), by decide +kernel, by decide +kernel, by decide +kernel⟩
theorem kb_M_stays : zBok y_M_stays b_M_stays 5 (some .boolean) 1 := ⟨zTs_at 452 rfl rfl, zTs_at 37 (by decide +kernel) (by decide +kernel), by decide +kernel, by decide +kernel, by decide +kernel⟩
theorem kb_M_count : zBok y_M_count b_M_count 3 (some .int) 1 := ⟨zTs_at 455 rfl rfl, zTs_at 37 (by decide +kernel) (by decide +kernel), by decide +kernel, by decide +kernel, by decide +kernel⟩
theorem kb_M_left : zBok y_M_left b_M_left 4 (some .int) 1 := ⟨zTs_at 459 rfl rfl, zTs_at 37 (by decide +kernel) (by decide +kernel), by decide +kernel, by decide +kernel, by decide +kernel⟩
theorem kb_M_minimal : zBok y_M_minimal b_M_minimal 3 (some .boolean) 0 := ⟨zTs_at 463 rfl rfl, zTs_at 37 (by decide +kernel) (by decide +kernel), by decide +kernel, by decide +kernel, by decide +kernel⟩
theorem kb_M_same : zBok y_M_same b_M_same 8 (some .boolean) 3 := ⟨zTs_at 467 rfl rfl, zTs_at 37 (by decide +kernel) (by decide +kernel), by decide +kernel, by decide +kernel, by decide +kernel⟩
theorem kc_L_15 : zIok N_L 15 y_D_init b_D_init 3 1 := ⟨kb_D_init, zTs_at 41 (by decide +kernel) (by decide +kernel), zTs_at 42 (by decide +kernel) (by decide +kernel), rfl⟩
theorem ko_D_3 : Cond.methodLink N_D 3 objectInit ∈ zTs := zTs_at 44 (by decide +kernel) (by decide +kernel)
theorem kc_D_11 : zINok N_D 11 "LibraryDrawer" y_K_init b_K_init 1 0 := ⟨kb_K_init, List.mem_of_getElem? (i := 0) rfl, zTs_at 50 (by decide +kernel) (by decide +kernel), rfl⟩
theorem ko_K_3 : Cond.methodLink N_K 3 objectInit ∈ zTs := zTs_at 52 (by decide +kernel) (by decide +kernel)
theorem kc_D_24 : zINok N_D 24 "LibraryDrawer" y_R_init b_R_init 1 0 := ⟨kb_R_init, List.mem_of_getElem? (i := 1) rfl, zTs_at 79 (by decide +kernel) (by decide +kernel), rfl⟩
theorem ko_R_3 : Cond.methodLink N_R 3 objectInit ∈ zTs := zTs_at 81 (by decide +kernel) (by decide +kernel)
theorem kc_L_21 : zVok N_L 21 y_D_draw b_D_draw 3 (some .int) 2 := ⟨kb_D_draw, zTs_at 111 (by decide +kernel) (by decide +kernel), zTs_at 112 (by decide +kernel) (by decide +kernel), zTs_at 113 (by decide +kernel) (by decide +kernel)⟩
theorem kc_D_40 : zSok N_D 40 y_D_canBeDrawn b_D_canBeDrawn 2 (some .boolean) 2 := ⟨kb_D_canBeDrawn, zTs_at 115 (by decide +kernel) (by decide +kernel), zTs_at 116 (by decide +kernel) (by decide +kernel)⟩
theorem kc_D_44 : zVok N_D 44 y_K_fill b_K_fill 6 (none) 3 := ⟨kb_K_fill, zTs_at 118 (by decide +kernel) (by decide +kernel), zTs_at 119 (by decide +kernel) (by decide +kernel), zTs_at 120 (by decide +kernel) (by decide +kernel)⟩
theorem kc_K_39 : zSNok N_K 39 "LibraryDrawer" y_D_canBeDrawn b_D_canBeDrawn 2 (some .boolean) 2 := ⟨kb_D_canBeDrawn, List.mem_of_getElem? (i := 2) rfl, zTs_at 116 (by decide +kernel) (by decide +kernel)⟩
theorem kc_K_47 : zVok N_K 47 y_K_fillPart b_K_fillPart 2 (none) 1 := ⟨kb_K_fillPart, zTs_at 125 (by decide +kernel) (by decide +kernel), zTs_at 127 (by decide +kernel) (by decide +kernel), zTs_at 0 (by decide +kernel) (by decide +kernel)⟩
theorem kc_K_51 : zVok N_K 51 y_K_fillRecord b_K_fillRecord 6 (none) 1 := ⟨kb_K_fillRecord, zTs_at 129 (by decide +kernel) (by decide +kernel), zTs_at 131 (by decide +kernel) (by decide +kernel), zTs_at 1 (by decide +kernel) (by decide +kernel)⟩
theorem kc_K_69 : zVok N_K 69 y_K_startTitle b_K_startTitle 2 (none) 1 := ⟨kb_K_startTitle, zTs_at 133 (by decide +kernel) (by decide +kernel), zTs_at 135 (by decide +kernel) (by decide +kernel), zTs_at 2 (by decide +kernel) (by decide +kernel)⟩
theorem kc_K_35 : zVok N_K 35 y_K_has b_K_has 2 (some .boolean) 1 := ⟨kb_K_has, zTs_at 137 (by decide +kernel) (by decide +kernel), zTs_at 139 (by decide +kernel) (by decide +kernel), zTs_at 3 (by decide +kernel) (by decide +kernel)⟩
theorem kc_K_72 : zVok N_K 72 y_K_next b_K_next 3 (some .int) 1 := ⟨kb_K_next, zTs_at 141 (by decide +kernel) (by decide +kernel), zTs_at 143 (by decide +kernel) (by decide +kernel), zTs_at 4 (by decide +kernel) (by decide +kernel)⟩
theorem kc_K_76 : zVok N_K 76 y_K_put b_K_put 5 (none) 4 := ⟨kb_K_put, zTs_at 147 (by decide +kernel) (by decide +kernel), zTs_at 149 (by decide +kernel) (by decide +kernel), zTs_at 5 (by decide +kernel) (by decide +kernel)⟩
theorem kc_K_80 : zVok N_K 80 y_K_addSign b_K_addSign 2 (none) 1 := ⟨kb_K_addSign, zTs_at 151 (by decide +kernel) (by decide +kernel), zTs_at 153 (by decide +kernel) (by decide +kernel), zTs_at 6 (by decide +kernel) (by decide +kernel)⟩
theorem kc_K_83 : zVok N_K 83 y_K_number b_K_number 3 (some .int) 2 := ⟨kb_K_number, zTs_at 155 (by decide +kernel) (by decide +kernel), zTs_at 156 (by decide +kernel) (by decide +kernel), zTs_at 157 (by decide +kernel) (by decide +kernel)⟩
theorem kc_K_87 : zVok N_K 87 y_K_repeatTitle b_K_repeatTitle 4 (none) 1 := ⟨kb_K_repeatTitle, zTs_at 159 (by decide +kernel) (by decide +kernel), zTs_at 161 (by decide +kernel) (by decide +kernel), zTs_at 7 (by decide +kernel) (by decide +kernel)⟩
theorem kc_K_90 : zVok N_K 90 y_K_sign b_K_sign 2 (some .int) 1 := ⟨kb_K_sign, zTs_at 163 (by decide +kernel) (by decide +kernel), zTs_at 164 (by decide +kernel) (by decide +kernel), zTs_at 165 (by decide +kernel) (by decide +kernel)⟩
theorem kc_K_54 : zVok N_K 54 y_K_fillFile b_K_fillFile 2 (none) 1 := ⟨kb_K_fillFile, zTs_at 167 (by decide +kernel) (by decide +kernel), zTs_at 169 (by decide +kernel) (by decide +kernel), zTs_at 8 (by decide +kernel) (by decide +kernel)⟩
theorem kc_K_93 : zVok N_K 93 y_K_fillFileWithWinner b_K_fillFileWithWinner 8 (none) 1 := ⟨kb_K_fillFileWithWinner, zTs_at 171 (by decide +kernel) (by decide +kernel), zTs_at 173 (by decide +kernel) (by decide +kernel), zTs_at 9 (by decide +kernel) (by decide +kernel)⟩
theorem kc_K_96 : zVok N_K 96 y_K_fillFileWithoutWinner b_K_fillFileWithoutWinner 6 (none) 1 := ⟨kb_K_fillFileWithoutWinner, zTs_at 175 (by decide +kernel) (by decide +kernel), zTs_at 177 (by decide +kernel) (by decide +kernel), zTs_at 10 (by decide +kernel) (by decide +kernel)⟩
theorem kc_K_57 : zVok N_K 57 y_K_fillPattern b_K_fillPattern 5 (none) 1 := ⟨kb_K_fillPattern, zTs_at 179 (by decide +kernel) (by decide +kernel), zTs_at 181 (by decide +kernel) (by decide +kernel), zTs_at 11 (by decide +kernel) (by decide +kernel)⟩
theorem kc_K_60 : zVok N_K 60 y_K_fillLine b_K_fillLine 5 (none) 1 := ⟨kb_K_fillLine, zTs_at 183 (by decide +kernel) (by decide +kernel), zTs_at 185 (by decide +kernel) (by decide +kernel), zTs_at 12 (by decide +kernel) (by decide +kernel)⟩
theorem kc_K_63 : zVok N_K 63 y_K_fillReader b_K_fillReader 4 (none) 1 := ⟨kb_K_fillReader, zTs_at 187 (by decide +kernel) (by decide +kernel), zTs_at 189 (by decide +kernel) (by decide +kernel), zTs_at 13 (by decide +kernel) (by decide +kernel)⟩
theorem kc_K_66 : zVok N_K 66 y_K_fillAct b_K_fillAct 4 (none) 1 := ⟨kb_K_fillAct, zTs_at 191 (by decide +kernel) (by decide +kernel), zTs_at 193 (by decide +kernel) (by decide +kernel), zTs_at 14 (by decide +kernel) (by decide +kernel)⟩
theorem kc_K_99 : zVok N_K 99 y_K_timeBefore b_K_timeBefore 2 (some .int) 1 := ⟨kb_K_timeBefore, zTs_at 195 (by decide +kernel) (by decide +kernel), zTs_at 197 (by decide +kernel) (by decide +kernel), zTs_at 15 (by decide +kernel) (by decide +kernel)⟩
theorem kc_D_48 : zVok N_D 48 y_R_clear b_R_clear 1 (none) 0 := ⟨kb_R_clear, zTs_at 199 (by decide +kernel) (by decide +kernel), zTs_at 200 (by decide +kernel) (by decide +kernel), zTs_at 201 (by decide +kernel) (by decide +kernel)⟩
theorem kc_D_51 : zVok N_D 51 y_K_allParts b_K_allParts 1 (some .int) 0 := ⟨kb_K_allParts, zTs_at 203 (by decide +kernel) (by decide +kernel), zTs_at 204 (by decide +kernel) (by decide +kernel), zTs_at 205 (by decide +kernel) (by decide +kernel)⟩
theorem kc_D_55 : zVok N_D 55 y_K_count b_K_count 1 (some .int) 0 := ⟨kb_K_count, zTs_at 207 (by decide +kernel) (by decide +kernel), zTs_at 208 (by decide +kernel) (by decide +kernel), zTs_at 209 (by decide +kernel) (by decide +kernel)⟩
theorem kc_L_26 : zVok N_L 26 y_D_part b_D_part 3 (some .int) 2 := ⟨kb_D_part, zTs_at 211 (by decide +kernel) (by decide +kernel), zTs_at 212 (by decide +kernel) (by decide +kernel), zTs_at 213 (by decide +kernel) (by decide +kernel)⟩
theorem kc_D_58 : zVok N_D 58 y_K_number b_K_number 3 (some .int) 2 := ⟨kb_K_number, zTs_at 215 (by decide +kernel) (by decide +kernel), zTs_at 156 (by decide +kernel) (by decide +kernel), zTs_at 157 (by decide +kernel) (by decide +kernel)⟩
theorem kc_L_30 : zVok N_L 30 y_D_letter b_D_letter 2 (some .int) 1 := ⟨kb_D_letter, zTs_at 216 (by decide +kernel) (by decide +kernel), zTs_at 217 (by decide +kernel) (by decide +kernel), zTs_at 218 (by decide +kernel) (by decide +kernel)⟩
theorem kc_D_62 : zVok N_D 62 y_K_sign b_K_sign 2 (some .int) 1 := ⟨kb_K_sign, zTs_at 220 (by decide +kernel) (by decide +kernel), zTs_at 164 (by decide +kernel) (by decide +kernel), zTs_at 165 (by decide +kernel) (by decide +kernel)⟩
theorem kc_L_35 : zVok N_L 35 y_D_majority b_D_majority 2 (some .int) 1 := ⟨kb_D_majority, zTs_at 221 (by decide +kernel) (by decide +kernel), zTs_at 222 (by decide +kernel) (by decide +kernel), zTs_at 223 (by decide +kernel) (by decide +kernel)⟩
theorem kc_D_66 : zVok N_D 66 y_K_winner b_K_winner 3 (some .int) 1 := ⟨kb_K_winner, zTs_at 225 (by decide +kernel) (by decide +kernel), zTs_at 226 (by decide +kernel) (by decide +kernel), zTs_at 227 (by decide +kernel) (by decide +kernel)⟩
theorem kc_K_106 : zVok N_K 106 y_K_votes b_K_votes 8 (some .int) 2 := ⟨kb_K_votes, zTs_at 229 (by decide +kernel) (by decide +kernel), zTs_at 231 (by decide +kernel) (by decide +kernel), zTs_at 16 (by decide +kernel) (by decide +kernel)⟩
theorem kc_L_39 : zVok N_L 39 y_D_ends b_D_ends 2 (some .boolean) 1 := ⟨kb_D_ends, zTs_at 233 (by decide +kernel) (by decide +kernel), zTs_at 234 (by decide +kernel) (by decide +kernel), zTs_at 235 (by decide +kernel) (by decide +kernel)⟩
theorem kc_D_69 : zVok N_D 69 y_K_isPattern b_K_isPattern 2 (some .boolean) 1 := ⟨kb_K_isPattern, zTs_at 237 (by decide +kernel) (by decide +kernel), zTs_at 238 (by decide +kernel) (by decide +kernel), zTs_at 239 (by decide +kernel) (by decide +kernel)⟩
theorem kc_D_73 : zVok N_D 73 y_K_lastDay b_K_lastDay 2 (some .int) 1 := ⟨kb_K_lastDay, zTs_at 241 (by decide +kernel) (by decide +kernel), zTs_at 242 (by decide +kernel) (by decide +kernel), zTs_at 243 (by decide +kernel) (by decide +kernel)⟩
theorem kc_L_44 : zVok N_L 44 y_D_planted b_D_planted 4 (some .int) 1 := ⟨kb_D_planted, zTs_at 245 (by decide +kernel) (by decide +kernel), zTs_at 246 (by decide +kernel) (by decide +kernel), zTs_at 247 (by decide +kernel) (by decide +kernel)⟩
theorem kc_D_76 : zVok N_D 76 y_K_shows b_K_shows 3 (some .boolean) 2 := ⟨kb_K_shows, zTs_at 249 (by decide +kernel) (by decide +kernel), zTs_at 250 (by decide +kernel) (by decide +kernel), zTs_at 251 (by decide +kernel) (by decide +kernel)⟩
theorem kc_K_109 : zVok N_K 109 y_K_winner b_K_winner 3 (some .int) 1 := ⟨kb_K_winner, zTs_at 253 (by decide +kernel) (by decide +kernel), zTs_at 226 (by decide +kernel) (by decide +kernel), zTs_at 227 (by decide +kernel) (by decide +kernel)⟩
theorem kc_K_112 : zVok N_K 112 y_K_isPattern b_K_isPattern 2 (some .boolean) 1 := ⟨kb_K_isPattern, zTs_at 254 (by decide +kernel) (by decide +kernel), zTs_at 238 (by decide +kernel) (by decide +kernel), zTs_at 239 (by decide +kernel) (by decide +kernel)⟩
theorem kc_K_115 : zVok N_K 115 y_K_lastDay b_K_lastDay 2 (some .int) 1 := ⟨kb_K_lastDay, zTs_at 255 (by decide +kernel) (by decide +kernel), zTs_at 242 (by decide +kernel) (by decide +kernel), zTs_at 243 (by decide +kernel) (by decide +kernel)⟩
theorem kc_L_48 : zVok N_L 48 y_D_verdict b_D_verdict 4 (none) 2 := ⟨kb_D_verdict, zTs_at 256 (by decide +kernel) (by decide +kernel), zTs_at 257 (by decide +kernel) (by decide +kernel), zTs_at 258 (by decide +kernel) (by decide +kernel)⟩
theorem kc_D_79 : zVok N_D 79 y_R_add b_R_add 2 (none) 1 := ⟨kb_R_add, zTs_at 260 (by decide +kernel) (by decide +kernel), zTs_at 261 (by decide +kernel) (by decide +kernel), zTs_at 262 (by decide +kernel) (by decide +kernel)⟩
theorem kc_L_53 : zVok N_L 53 y_D_shorter b_D_shorter 1 (some .int) 0 := ⟨kb_D_shorter, zTs_at 264 (by decide +kernel) (by decide +kernel), zTs_at 265 (by decide +kernel) (by decide +kernel), zTs_at 266 (by decide +kernel) (by decide +kernel)⟩
theorem kc_D_83 : zVok N_D 83 y_D_smallerCase b_D_smallerCase 5 (some .int) 1 := ⟨kb_D_smallerCase, zTs_at 268 (by decide +kernel) (by decide +kernel), zTs_at 270 (by decide +kernel) (by decide +kernel), zTs_at 17 (by decide +kernel) (by decide +kernel)⟩
theorem kc_D_94 : zVok N_D 94 y_D_staysFor b_D_staysFor 2 (some .boolean) 1 := ⟨kb_D_staysFor, zTs_at 272 (by decide +kernel) (by decide +kernel), zTs_at 274 (by decide +kernel) (by decide +kernel), zTs_at 18 (by decide +kernel) (by decide +kernel)⟩
theorem kc_D_107 : zVok N_D 107 y_R_oneIsWithin b_R_oneIsWithin 3 (some .boolean) 1 := ⟨kb_R_oneIsWithin, zTs_at 276 (by decide +kernel) (by decide +kernel), zTs_at 277 (by decide +kernel) (by decide +kernel), zTs_at 278 (by decide +kernel) (by decide +kernel)⟩
theorem kc_D_110 : zVok N_D 110 y_R_oneIsTornBy b_R_oneIsTornBy 4 (some .boolean) 1 := ⟨kb_R_oneIsTornBy, zTs_at 280 (by decide +kernel) (by decide +kernel), zTs_at 281 (by decide +kernel) (by decide +kernel), zTs_at 282 (by decide +kernel) (by decide +kernel)⟩
theorem kc_D_113 : zVok N_D 113 y_D_afterOneGoing b_D_afterOneGoing 4 (some .int) 1 := ⟨kb_D_afterOneGoing, zTs_at 284 (by decide +kernel) (by decide +kernel), zTs_at 286 (by decide +kernel) (by decide +kernel), zTs_at 19 (by decide +kernel) (by decide +kernel)⟩
theorem kc_D_91 : zSok N_D 91 y_D_isIn b_D_isIn 2 (some .boolean) 2 := ⟨kb_D_isIn, zTs_at 288 (by decide +kernel) (by decide +kernel), zTs_at 289 (by decide +kernel) (by decide +kernel)⟩
theorem kc_D_97 : zSok N_D 97 y_D_without b_D_without 2 (some .int) 2 := ⟨kb_D_without, zTs_at 291 (by decide +kernel) (by decide +kernel), zTs_at 292 (by decide +kernel) (by decide +kernel)⟩
theorem kc_D_86 : zSok N_D 86 y_J_bitCount b_J_bitCount 1 (some .int) 1 := ⟨kb_J_bitCount, zTs_at 294 (by decide +kernel) (by decide +kernel), zTs_at 295 (by decide +kernel) (by decide +kernel)⟩
theorem kc_L_58 : zVok N_L 58 y_D_left b_D_left 4 (some .int) 1 := ⟨kb_D_left, zTs_at 300 (by decide +kernel) (by decide +kernel), zTs_at 301 (by decide +kernel) (by decide +kernel), zTs_at 302 (by decide +kernel) (by decide +kernel)⟩
theorem kc_L_62 : zVok N_L 62 y_D_minimal b_D_minimal 2 (some .boolean) 0 := ⟨kb_D_minimal, zTs_at 304 (by decide +kernel) (by decide +kernel), zTs_at 305 (by decide +kernel) (by decide +kernel), zTs_at 306 (by decide +kernel) (by decide +kernel)⟩
theorem kc_L_69 : zVok N_L 69 y_D_same b_D_same 5 (some .boolean) 3 := ⟨kb_D_same, zTs_at 308 (by decide +kernel) (by decide +kernel), zTs_at 309 (by decide +kernel) (by decide +kernel), zTs_at 310 (by decide +kernel) (by decide +kernel)⟩
theorem kc_D_100 : zVok N_D 100 y_D_sameParts b_D_sameParts 3 (some .boolean) 0 := ⟨kb_D_sameParts, zTs_at 312 (by decide +kernel) (by decide +kernel), zTs_at 314 (by decide +kernel) (by decide +kernel), zTs_at 20 (by decide +kernel) (by decide +kernel)⟩
theorem kc_D_104 : zVok N_D 104 y_D_sameSigns b_D_sameSigns 2 (some .boolean) 0 := ⟨kb_D_sameSigns, zTs_at 316 (by decide +kernel) (by decide +kernel), zTs_at 318 (by decide +kernel) (by decide +kernel), zTs_at 21 (by decide +kernel) (by decide +kernel)⟩
theorem kc_L_9 : zSok N_L 9 y_L_cell b_L_cell 2 (some .int) 2 := ⟨kb_L_cell, zTs_at 320 (by decide +kernel) (by decide +kernel), zTs_at 321 (by decide +kernel) (by decide +kernel)⟩
theorem kc_L_20 : zIok N_L 20 y_M_init b_M_init 3 1 := ⟨kb_M_init, zTs_at 325 (by decide +kernel) (by decide +kernel), zTs_at 326 (by decide +kernel) (by decide +kernel), rfl⟩
theorem ko_M_1 : Cond.methodLink N_M 1 objectInit ∈ zTs := zTs_at 328 (by decide +kernel) (by decide +kernel)
theorem kc_L_25 : zVok N_L 25 y_M_draw b_M_draw 3 (some .int) 2 := ⟨kb_M_draw, zTs_at 364 (by decide +kernel) (by decide +kernel), zTs_at 365 (by decide +kernel) (by decide +kernel), zTs_at 366 (by decide +kernel) (by decide +kernel)⟩
theorem kc_M_68 : zSok N_M 68 y_M_can b_M_can 2 (some .boolean) 2 := ⟨kb_M_can, zTs_at 368 (by decide +kernel) (by decide +kernel), zTs_at 369 (by decide +kernel) (by decide +kernel)⟩
theorem kc_M_61 : zSok N_M 61 y_M_in b_M_in 3 (some .boolean) 3 := ⟨kb_M_in, zTs_at 371 (by decide +kernel) (by decide +kernel), zTs_at 372 (by decide +kernel) (by decide +kernel)⟩
theorem kc_M_72 : zVok N_M 72 y_M_draws b_M_draws 7 (none) 4 := ⟨kb_M_draws, zTs_at 374 (by decide +kernel) (by decide +kernel), zTs_at 376 (by decide +kernel) (by decide +kernel), zTs_at 22 (by decide +kernel) (by decide +kernel)⟩
theorem kc_M_57 : zVok N_M 57 y_M_part4 b_M_part4 6 (none) 4 := ⟨kb_M_part4, zTs_at 380 (by decide +kernel) (by decide +kernel), zTs_at 382 (by decide +kernel) (by decide +kernel), zTs_at 23 (by decide +kernel) (by decide +kernel)⟩
theorem kc_M_38 : zSok N_M 38 y_M_at b_M_at 2 (some .int) 2 := ⟨kb_M_at, zTs_at 384 (by decide +kernel) (by decide +kernel), zTs_at 385 (by decide +kernel) (by decide +kernel)⟩
theorem kc_M_46 : zVok N_M 46 y_M_record b_M_record 6 (none) 2 := ⟨kb_M_record, zTs_at 387 (by decide +kernel) (by decide +kernel), zTs_at 389 (by decide +kernel) (by decide +kernel), zTs_at 24 (by decide +kernel) (by decide +kernel)⟩
theorem kc_M_42 : zVok N_M 42 y_M_next b_M_next 2 (some .int) 1 := ⟨kb_M_next, zTs_at 391 (by decide +kernel) (by decide +kernel), zTs_at 393 (by decide +kernel) (by decide +kernel), zTs_at 25 (by decide +kernel) (by decide +kernel)⟩
theorem kc_M_50 : zVok N_M 50 y_M_file b_M_file 9 (none) 2 := ⟨kb_M_file, zTs_at 397 (by decide +kernel) (by decide +kernel), zTs_at 399 (by decide +kernel) (by decide +kernel), zTs_at 26 (by decide +kernel) (by decide +kernel)⟩
theorem kc_M_82 : zVok N_M 82 y_M_all b_M_all 1 (some .int) 0 := ⟨kb_M_all, zTs_at 401 (by decide +kernel) (by decide +kernel), zTs_at 403 (by decide +kernel) (by decide +kernel), zTs_at 27 (by decide +kernel) (by decide +kernel)⟩
theorem kc_L_29 : zVok N_L 29 y_M_part b_M_part 3 (some .int) 2 := ⟨kb_M_part, zTs_at 405 (by decide +kernel) (by decide +kernel), zTs_at 406 (by decide +kernel) (by decide +kernel), zTs_at 407 (by decide +kernel) (by decide +kernel)⟩
theorem kc_M_89 : zVok N_M 89 y_M_isPart b_M_isPart 2 (some .boolean) 1 := ⟨kb_M_isPart, zTs_at 409 (by decide +kernel) (by decide +kernel), zTs_at 411 (by decide +kernel) (by decide +kernel), zTs_at 28 (by decide +kernel) (by decide +kernel)⟩
theorem kc_L_34 : zVok N_L 34 y_M_letter b_M_letter 5 (some .int) 1 := ⟨kb_M_letter, zTs_at 413 (by decide +kernel) (by decide +kernel), zTs_at 414 (by decide +kernel) (by decide +kernel), zTs_at 415 (by decide +kernel) (by decide +kernel)⟩
theorem kc_L_38 : zVok N_L 38 y_M_majority b_M_majority 2 (some .int) 1 := ⟨kb_M_majority, zTs_at 417 (by decide +kernel) (by decide +kernel), zTs_at 418 (by decide +kernel) (by decide +kernel), zTs_at 419 (by decide +kernel) (by decide +kernel)⟩
theorem kc_M_93 : zVok N_M 93 y_M_wins b_M_wins 6 (some .int) 1 := ⟨kb_M_wins, zTs_at 421 (by decide +kernel) (by decide +kernel), zTs_at 423 (by decide +kernel) (by decide +kernel), zTs_at 29 (by decide +kernel) (by decide +kernel)⟩
theorem kc_L_43 : zVok N_L 43 y_M_ends b_M_ends 2 (some .boolean) 1 := ⟨kb_M_ends, zTs_at 425 (by decide +kernel) (by decide +kernel), zTs_at 426 (by decide +kernel) (by decide +kernel), zTs_at 427 (by decide +kernel) (by decide +kernel)⟩
theorem kc_M_96 : zVok N_M 96 y_M_lastDay b_M_lastDay 2 (some .int) 1 := ⟨kb_M_lastDay, zTs_at 429 (by decide +kernel) (by decide +kernel), zTs_at 431 (by decide +kernel) (by decide +kernel), zTs_at 30 (by decide +kernel) (by decide +kernel)⟩
theorem kc_L_47 : zVok N_L 47 y_M_planted b_M_planted 4 (some .int) 1 := ⟨kb_M_planted, zTs_at 433 (by decide +kernel) (by decide +kernel), zTs_at 434 (by decide +kernel) (by decide +kernel), zTs_at 435 (by decide +kernel) (by decide +kernel)⟩
theorem kc_M_99 : zVok N_M 99 y_M_isPlanted b_M_isPlanted 3 (some .boolean) 2 := ⟨kb_M_isPlanted, zTs_at 437 (by decide +kernel) (by decide +kernel), zTs_at 439 (by decide +kernel) (by decide +kernel), zTs_at 31 (by decide +kernel) (by decide +kernel)⟩
theorem kc_L_52 : zVok N_L 52 y_M_verdict b_M_verdict 3 (none) 2 := ⟨kb_M_verdict, zTs_at 441 (by decide +kernel) (by decide +kernel), zTs_at 442 (by decide +kernel) (by decide +kernel), zTs_at 443 (by decide +kernel) (by decide +kernel)⟩
theorem kc_L_57 : zVok N_L 57 y_M_shorter b_M_shorter 3 (some .int) 0 := ⟨kb_M_shorter, zTs_at 445 (by decide +kernel) (by decide +kernel), zTs_at 446 (by decide +kernel) (by decide +kernel), zTs_at 447 (by decide +kernel) (by decide +kernel)⟩
theorem kc_M_102 : zVok N_M 102 y_M_stays b_M_stays 5 (some .boolean) 1 := ⟨kb_M_stays, zTs_at 449 (by decide +kernel) (by decide +kernel), zTs_at 451 (by decide +kernel) (by decide +kernel), zTs_at 32 (by decide +kernel) (by decide +kernel)⟩
theorem kc_M_105 : zSok N_M 105 y_M_count b_M_count 3 (some .int) 1 := ⟨kb_M_count, zTs_at 453 (by decide +kernel) (by decide +kernel), zTs_at 454 (by decide +kernel) (by decide +kernel)⟩
theorem kc_L_61 : zVok N_L 61 y_M_left b_M_left 4 (some .int) 1 := ⟨kb_M_left, zTs_at 456 (by decide +kernel) (by decide +kernel), zTs_at 457 (by decide +kernel) (by decide +kernel), zTs_at 458 (by decide +kernel) (by decide +kernel)⟩
theorem kc_L_66 : zVok N_L 66 y_M_minimal b_M_minimal 3 (some .boolean) 0 := ⟨kb_M_minimal, zTs_at 460 (by decide +kernel) (by decide +kernel), zTs_at 461 (by decide +kernel) (by decide +kernel), zTs_at 462 (by decide +kernel) (by decide +kernel)⟩
theorem kc_L_73 : zVok N_L 73 y_M_same b_M_same 8 (some .boolean) 3 := ⟨kb_M_same, zTs_at 464 (by decide +kernel) (by decide +kernel), zTs_at 465 (by decide +kernel) (by decide +kernel), zTs_at 466 (by decide +kernel) (by decide +kernel)⟩
theorem kn_D : Cond.initialized N_D ∈ zTs := zTs_at 34 (by decide +kernel) (by decide +kernel)
theorem kn_K : Cond.initialized N_K ∈ zTs := zTs_at 35 (by decide +kernel) (by decide +kernel)
theorem kn_R : Cond.initialized N_R ∈ zTs := zTs_at 36 (by decide +kernel) (by decide +kernel)
theorem kn_M : Cond.initialized N_M ∈ zTs := zTs_at 37 (by decide +kernel) (by decide +kernel)
theorem kl_L_7 : Cond.classLink N_L 7 N_D ∈ zTs := zTs_at 39 (by decide +kernel) (by decide +kernel)
theorem ki_D : Cond.instantiable N_D 7 ∈ zTs := zTs_at 40 (by decide +kernel) (by decide +kernel)
theorem kl_D_9 : Cond.classLink N_D 9 N_K ∈ zTs := zTs_at 47 (by decide +kernel) (by decide +kernel)
theorem ki_K : Cond.instantiable N_K 7 ∈ zTs := zTs_at 48 (by decide +kernel) (by decide +kernel)
theorem ka_int : Cond.arrayClass .int ∈ zTs := zTs_at 75 (by decide +kernel) (by decide +kernel)
theorem kl_D_22 : Cond.classLink N_D 22 N_R ∈ zTs := zTs_at 76 (by decide +kernel) (by decide +kernel)
theorem ki_R : Cond.instantiable N_R 2 ∈ zTs := zTs_at 77 (by decide +kernel) (by decide +kernel)
theorem kl_L_18 : Cond.classLink N_L 18 N_M ∈ zTs := zTs_at 323 (by decide +kernel) (by decide +kernel)
theorem ki_M : Cond.instantiable N_M 11 ∈ zTs := zTs_at 324 (by decide +kernel) (by decide +kernel)
theorem ka_byte : Cond.arrayClass .byte ∈ zTs := zTs_at 363 (by decide +kernel) (by decide +kernel)
end
section
abbrev SK : Type := (Nat → Int32) × (Nat → Int32) × (Nat → Int32) × Int64 × Int32 × Int32 × Int32
def sK_numbers (S : SK) : (Nat → Int32) := S.1
def uK_numbers (S : SK) (x : (Nat → Int32)) : SK := (x, S.2.1, S.2.2.1, S.2.2.2.1, S.2.2.2.2.1, S.2.2.2.2.2.1, S.2.2.2.2.2.2)
def sK_signs (S : SK) : (Nat → Int32) := S.2.1
def uK_signs (S : SK) (x : (Nat → Int32)) : SK := (S.1, x, S.2.2.1, S.2.2.2.1, S.2.2.2.2.1, S.2.2.2.2.2.1, S.2.2.2.2.2.2)
def sK_titleStarts (S : SK) : (Nat → Int32) := S.2.2.1
def uK_titleStarts (S : SK) (x : (Nat → Int32)) : SK := (S.1, S.2.1, x, S.2.2.2.1, S.2.2.2.2.1, S.2.2.2.2.2.1, S.2.2.2.2.2.2)
def sK_chance (S : SK) : Int64 := S.2.2.2.1
def uK_chance (S : SK) (x : Int64) : SK := (S.1, S.2.1, S.2.2.1, x, S.2.2.2.2.1, S.2.2.2.2.2.1, S.2.2.2.2.2.2)
def sK_kind (S : SK) : Int32 := S.2.2.2.2.1
def uK_kind (S : SK) (x : Int32) : SK := (S.1, S.2.1, S.2.2.1, S.2.2.2.1, x, S.2.2.2.2.2.1, S.2.2.2.2.2.2)
def sK_parts (S : SK) : Int32 := S.2.2.2.2.2.1
def uK_parts (S : SK) (x : Int32) : SK := (S.1, S.2.1, S.2.2.1, S.2.2.2.1, S.2.2.2.2.1, x, S.2.2.2.2.2.2)
def sK_signsUsed (S : SK) : Int32 := S.2.2.2.2.2.2
def uK_signsUsed (S : SK) (x : Int32) : SK := (S.1, S.2.1, S.2.2.1, S.2.2.2.1, S.2.2.2.2.1, S.2.2.2.2.2.1, x)
def wK (G : zG) (a : Nat → Nat) (S : SK) : va_W := [(a 0, .inr (0, [.ref (a 1), .ref (a 2), .ref (a 3), .long (sK_chance S), .int (sK_kind S), .int (sK_parts S), .int (sK_signsUsed S)])), (a 1, .inl (G.2 0, 63, .inl (sK_numbers S))), (a 2, .inl (G.2 0, 147, .inl (sK_signs S))), (a 3, .inl (G.2 0, 21, .inl (sK_titleStarts S)))]
theorem wK_set_numbers (G : zG) (a : Nat → Nat) (S : SK) (x : (Nat → Int32)) : (wK G a S).set 1 (a 1, .inl (G.2 0, 63, .inl x)) = wK G a (uK_numbers S x) := rfl
theorem wK_set_signs (G : zG) (a : Nat → Nat) (S : SK) (x : (Nat → Int32)) : (wK G a S).set 2 (a 2, .inl (G.2 0, 147, .inl x)) = wK G a (uK_signs S x) := rfl
theorem wK_set_titleStarts (G : zG) (a : Nat → Nat) (S : SK) (x : (Nat → Int32)) : (wK G a S).set 3 (a 3, .inl (G.2 0, 21, .inl x)) = wK G a (uK_titleStarts S x) := rfl
theorem wK_put_chance (G : zG) (a : Nat → Nat) (S : SK) (x : Int64) : (wK G a S).set 0 (a 0, .inr (0, ([.ref (a 1), .ref (a 2), .ref (a 3), .long (sK_chance S), .int (sK_kind S), .int (sK_parts S), .int (sK_signsUsed S)] : List Value).set 3 (.long x))) = wK G a (uK_chance S x) := rfl
theorem wK_put_kind (G : zG) (a : Nat → Nat) (S : SK) (x : Int32) : (wK G a S).set 0 (a 0, .inr (0, ([.ref (a 1), .ref (a 2), .ref (a 3), .long (sK_chance S), .int (sK_kind S), .int (sK_parts S), .int (sK_signsUsed S)] : List Value).set 4 (.int x))) = wK G a (uK_kind S x) := rfl
theorem wK_put_parts (G : zG) (a : Nat → Nat) (S : SK) (x : Int32) : (wK G a S).set 0 (a 0, .inr (0, ([.ref (a 1), .ref (a 2), .ref (a 3), .long (sK_chance S), .int (sK_kind S), .int (sK_parts S), .int (sK_signsUsed S)] : List Value).set 5 (.int x))) = wK G a (uK_parts S x) := rfl
theorem wK_put_signsUsed (G : zG) (a : Nat → Nat) (S : SK) (x : Int32) : (wK G a S).set 0 (a 0, .inr (0, ([.ref (a 1), .ref (a 2), .ref (a 3), .long (sK_chance S), .int (sK_kind S), .int (sK_parts S), .int (sK_signsUsed S)] : List Value).set 6 (.int x))) = wK G a (uK_signsUsed S x) := rfl
abbrev SR : Type := (Nat → Int32) × Int32
def sR_rows (S : SR) : (Nat → Int32) := S.1
def uR_rows (S : SR) (x : (Nat → Int32)) : SR := (x, S.2)
def sR_told (S : SR) : Int32 := S.2
def uR_told (S : SR) (x : Int32) : SR := (S.1, x)
def wR (G : zG) (a : Nat → Nat) (S : SR) : va_W := [(a 0, .inr (1, [.ref (a 1), .int (sR_told S)])), (a 1, .inl (G.2 0, 6, .inl (sR_rows S)))]
theorem wR_set_rows (G : zG) (a : Nat → Nat) (S : SR) (x : (Nat → Int32)) : (wR G a S).set 1 (a 1, .inl (G.2 0, 6, .inl x)) = wR G a (uR_rows S x) := rfl
theorem wR_put_told (G : zG) (a : Nat → Nat) (S : SR) (x : Int32) : (wR G a S).set 0 (a 0, .inr (1, ([.ref (a 1), .int (sR_told S)] : List Value).set 1 (.int x))) = wR G a (uR_told S x) := rfl
abbrev SD : Type := Int64 × SK × SK × SK × SR × SR × Int32
def sD_seed (S : SD) : Int64 := S.1
def uD_seed (S : SD) (x : Int64) : SD := (x, S.2.1, S.2.2.1, S.2.2.2.1, S.2.2.2.2.1, S.2.2.2.2.2.1, S.2.2.2.2.2.2)
def sD_drawn (S : SD) : SK := S.2.1
def uD_drawn (S : SD) (x : SK) : SD := (S.1, x, S.2.2.1, S.2.2.2.1, S.2.2.2.2.1, S.2.2.2.2.2.1, S.2.2.2.2.2.2)
def sD_ours (S : SD) : SK := S.2.2.1
def uD_ours (S : SD) (x : SK) : SD := (S.1, S.2.1, x, S.2.2.2.1, S.2.2.2.2.1, S.2.2.2.2.2.1, S.2.2.2.2.2.2)
def sD_theirs (S : SD) : SK := S.2.2.2.1
def uD_theirs (S : SD) (x : SK) : SD := (S.1, S.2.1, S.2.2.1, x, S.2.2.2.2.1, S.2.2.2.2.2.1, S.2.2.2.2.2.2)
def sD_needed (S : SD) : SR := S.2.2.2.2.1
def uD_needed (S : SD) (x : SR) : SD := (S.1, S.2.1, S.2.2.1, S.2.2.2.1, x, S.2.2.2.2.2.1, S.2.2.2.2.2.2)
def sD_together (S : SD) : SR := S.2.2.2.2.2.1
def uD_together (S : SD) (x : SR) : SD := (S.1, S.2.1, S.2.2.1, S.2.2.2.1, S.2.2.2.2.1, x, S.2.2.2.2.2.2)
def sD_leftParts (S : SD) : Int32 := S.2.2.2.2.2.2
def uD_leftParts (S : SD) (x : Int32) : SD := (S.1, S.2.1, S.2.2.1, S.2.2.2.1, S.2.2.2.2.1, S.2.2.2.2.2.1, x)
abbrev SM : Type := Int32 × Int64 × Int64 × Int32 × Int32 × (Nat → Int32) × (Nat → Int32) × Int32 × Int32 × (Nat → Int32) × Int32
def sM_thrown (S : SM) : Int32 := S.1
def uM_thrown (S : SM) (x : Int32) : SM := (x, S.2.1, S.2.2.1, S.2.2.2.1, S.2.2.2.2.1, S.2.2.2.2.2.1, S.2.2.2.2.2.2.1, S.2.2.2.2.2.2.2.1, S.2.2.2.2.2.2.2.2.1, S.2.2.2.2.2.2.2.2.2.1, S.2.2.2.2.2.2.2.2.2.2)
def sM_seed (S : SM) : Int64 := S.2.1
def uM_seed (S : SM) (x : Int64) : SM := (S.1, x, S.2.2.1, S.2.2.2.1, S.2.2.2.2.1, S.2.2.2.2.2.1, S.2.2.2.2.2.2.1, S.2.2.2.2.2.2.2.1, S.2.2.2.2.2.2.2.2.1, S.2.2.2.2.2.2.2.2.2.1, S.2.2.2.2.2.2.2.2.2.2)
def sM_chance (S : SM) : Int64 := S.2.2.1
def uM_chance (S : SM) (x : Int64) : SM := (S.1, S.2.1, x, S.2.2.2.1, S.2.2.2.2.1, S.2.2.2.2.2.1, S.2.2.2.2.2.2.1, S.2.2.2.2.2.2.2.1, S.2.2.2.2.2.2.2.2.1, S.2.2.2.2.2.2.2.2.2.1, S.2.2.2.2.2.2.2.2.2.2)
def sM_kind (S : SM) : Int32 := S.2.2.2.1
def uM_kind (S : SM) (x : Int32) : SM := (S.1, S.2.1, S.2.2.1, x, S.2.2.2.2.1, S.2.2.2.2.2.1, S.2.2.2.2.2.2.1, S.2.2.2.2.2.2.2.1, S.2.2.2.2.2.2.2.2.1, S.2.2.2.2.2.2.2.2.2.1, S.2.2.2.2.2.2.2.2.2.2)
def sM_parts (S : SM) : Int32 := S.2.2.2.2.1
def uM_parts (S : SM) (x : Int32) : SM := (S.1, S.2.1, S.2.2.1, S.2.2.2.1, x, S.2.2.2.2.2.1, S.2.2.2.2.2.2.1, S.2.2.2.2.2.2.2.1, S.2.2.2.2.2.2.2.2.1, S.2.2.2.2.2.2.2.2.2.1, S.2.2.2.2.2.2.2.2.2.2)
def sM_values (S : SM) : (Nat → Int32) := S.2.2.2.2.2.1
def uM_values (S : SM) (x : (Nat → Int32)) : SM := (S.1, S.2.1, S.2.2.1, S.2.2.2.1, S.2.2.2.2.1, x, S.2.2.2.2.2.2.1, S.2.2.2.2.2.2.2.1, S.2.2.2.2.2.2.2.2.1, S.2.2.2.2.2.2.2.2.2.1, S.2.2.2.2.2.2.2.2.2.2)
def sM_title (S : SM) : (Nat → Int32) := S.2.2.2.2.2.2.1
def uM_title (S : SM) (x : (Nat → Int32)) : SM := (S.1, S.2.1, S.2.2.1, S.2.2.2.1, S.2.2.2.2.1, S.2.2.2.2.2.1, x, S.2.2.2.2.2.2.2.1, S.2.2.2.2.2.2.2.2.1, S.2.2.2.2.2.2.2.2.2.1, S.2.2.2.2.2.2.2.2.2.2)
def sM_needed (S : SM) : Int32 := S.2.2.2.2.2.2.2.1
def uM_needed (S : SM) (x : Int32) : SM := (S.1, S.2.1, S.2.2.1, S.2.2.2.1, S.2.2.2.2.1, S.2.2.2.2.2.1, S.2.2.2.2.2.2.1, x, S.2.2.2.2.2.2.2.2.1, S.2.2.2.2.2.2.2.2.2.1, S.2.2.2.2.2.2.2.2.2.2)
def sM_together (S : SM) : Int32 := S.2.2.2.2.2.2.2.2.1
def uM_together (S : SM) (x : Int32) : SM := (S.1, S.2.1, S.2.2.1, S.2.2.2.1, S.2.2.2.2.1, S.2.2.2.2.2.1, S.2.2.2.2.2.2.1, S.2.2.2.2.2.2.2.1, x, S.2.2.2.2.2.2.2.2.2.1, S.2.2.2.2.2.2.2.2.2.2)
def sM_rows (S : SM) : (Nat → Int32) := S.2.2.2.2.2.2.2.2.2.1
def uM_rows (S : SM) (x : (Nat → Int32)) : SM := (S.1, S.2.1, S.2.2.1, S.2.2.2.1, S.2.2.2.2.1, S.2.2.2.2.2.1, S.2.2.2.2.2.2.1, S.2.2.2.2.2.2.2.1, S.2.2.2.2.2.2.2.2.1, x, S.2.2.2.2.2.2.2.2.2.2)
def sM_left (S : SM) : Int32 := S.2.2.2.2.2.2.2.2.2.2
def uM_left (S : SM) (x : Int32) : SM := (S.1, S.2.1, S.2.2.1, S.2.2.2.1, S.2.2.2.2.1, S.2.2.2.2.2.1, S.2.2.2.2.2.2.1, S.2.2.2.2.2.2.2.1, S.2.2.2.2.2.2.2.2.1, S.2.2.2.2.2.2.2.2.2.1, x)
def wM (G : zG) (a : Nat → Nat) (S : SM) : va_W := [(a 0, .inr (3, [.int (sM_thrown S), .long (sM_seed S), .long (sM_chance S), .int (sM_kind S), .int (sM_parts S), .ref (a 1), .ref (a 2), .int (sM_needed S), .int (sM_together S), .ref (a 3), .int (sM_left S)])), (a 1, .inl (G.2 0, 189, .inl (sM_values S))), (a 2, .inl (G.2 1, 378, .inl (sM_title S))), (a 3, .inl (G.2 0, 12, .inl (sM_rows S)))]
theorem wM_put_thrown (G : zG) (a : Nat → Nat) (S : SM) (x : Int32) : (wM G a S).set 0 (a 0, .inr (3, ([.int (sM_thrown S), .long (sM_seed S), .long (sM_chance S), .int (sM_kind S), .int (sM_parts S), .ref (a 1), .ref (a 2), .int (sM_needed S), .int (sM_together S), .ref (a 3), .int (sM_left S)] : List Value).set 0 (.int x))) = wM G a (uM_thrown S x) := rfl
theorem wM_put_seed (G : zG) (a : Nat → Nat) (S : SM) (x : Int64) : (wM G a S).set 0 (a 0, .inr (3, ([.int (sM_thrown S), .long (sM_seed S), .long (sM_chance S), .int (sM_kind S), .int (sM_parts S), .ref (a 1), .ref (a 2), .int (sM_needed S), .int (sM_together S), .ref (a 3), .int (sM_left S)] : List Value).set 1 (.long x))) = wM G a (uM_seed S x) := rfl
theorem wM_put_chance (G : zG) (a : Nat → Nat) (S : SM) (x : Int64) : (wM G a S).set 0 (a 0, .inr (3, ([.int (sM_thrown S), .long (sM_seed S), .long (sM_chance S), .int (sM_kind S), .int (sM_parts S), .ref (a 1), .ref (a 2), .int (sM_needed S), .int (sM_together S), .ref (a 3), .int (sM_left S)] : List Value).set 2 (.long x))) = wM G a (uM_chance S x) := rfl
theorem wM_put_kind (G : zG) (a : Nat → Nat) (S : SM) (x : Int32) : (wM G a S).set 0 (a 0, .inr (3, ([.int (sM_thrown S), .long (sM_seed S), .long (sM_chance S), .int (sM_kind S), .int (sM_parts S), .ref (a 1), .ref (a 2), .int (sM_needed S), .int (sM_together S), .ref (a 3), .int (sM_left S)] : List Value).set 3 (.int x))) = wM G a (uM_kind S x) := rfl
theorem wM_put_parts (G : zG) (a : Nat → Nat) (S : SM) (x : Int32) : (wM G a S).set 0 (a 0, .inr (3, ([.int (sM_thrown S), .long (sM_seed S), .long (sM_chance S), .int (sM_kind S), .int (sM_parts S), .ref (a 1), .ref (a 2), .int (sM_needed S), .int (sM_together S), .ref (a 3), .int (sM_left S)] : List Value).set 4 (.int x))) = wM G a (uM_parts S x) := rfl
theorem wM_set_values (G : zG) (a : Nat → Nat) (S : SM) (x : (Nat → Int32)) : (wM G a S).set 1 (a 1, .inl (G.2 0, 189, .inl x)) = wM G a (uM_values S x) := rfl
theorem wM_set_title (G : zG) (a : Nat → Nat) (S : SM) (x : (Nat → Int32)) : (wM G a S).set 2 (a 2, .inl (G.2 1, 378, .inl x)) = wM G a (uM_title S x) := rfl
theorem wM_put_needed (G : zG) (a : Nat → Nat) (S : SM) (x : Int32) : (wM G a S).set 0 (a 0, .inr (3, ([.int (sM_thrown S), .long (sM_seed S), .long (sM_chance S), .int (sM_kind S), .int (sM_parts S), .ref (a 1), .ref (a 2), .int (sM_needed S), .int (sM_together S), .ref (a 3), .int (sM_left S)] : List Value).set 7 (.int x))) = wM G a (uM_needed S x) := rfl
theorem wM_put_together (G : zG) (a : Nat → Nat) (S : SM) (x : Int32) : (wM G a S).set 0 (a 0, .inr (3, ([.int (sM_thrown S), .long (sM_seed S), .long (sM_chance S), .int (sM_kind S), .int (sM_parts S), .ref (a 1), .ref (a 2), .int (sM_needed S), .int (sM_together S), .ref (a 3), .int (sM_left S)] : List Value).set 8 (.int x))) = wM G a (uM_together S x) := rfl
theorem wM_set_rows (G : zG) (a : Nat → Nat) (S : SM) (x : (Nat → Int32)) : (wM G a S).set 3 (a 3, .inl (G.2 0, 12, .inl x)) = wM G a (uM_rows S x) := rfl
theorem wM_put_left (G : zG) (a : Nat → Nat) (S : SM) (x : Int32) : (wM G a S).set 0 (a 0, .inr (3, ([.int (sM_thrown S), .long (sM_seed S), .long (sM_chance S), .int (sM_kind S), .int (sM_parts S), .ref (a 1), .ref (a 2), .int (sM_needed S), .int (sM_together S), .ref (a 3), .int (sM_left S)] : List Value).set 10 (.int x))) = wM G a (uM_left S x) := rfl
def wD (G : zG) (a : Nat → Nat) (S : SD) : va_W := (a 0, .inr (2, [.long (sD_seed S), .ref (a 1), .ref (a 5), .ref (a 9), .ref (a 13), .ref (a 15), .int (sD_leftParts S)])) :: (wK G (fun i => a (i + 1)) (sD_drawn S) ++ (wK G (fun i => a (i + 5)) (sD_ours S) ++ (wK G (fun i => a (i + 9)) (sD_theirs S) ++ (wR G (fun i => a (i + 13)) (sD_needed S) ++ wR G (fun i => a (i + 15)) (sD_together S)))))
theorem wD_put_leftParts (G : zG) (a : Nat → Nat) (S : SD) (x : Int32) : (wD G a S).set 0 (a 0, .inr (2, ([.long (sD_seed S), .ref (a 1), .ref (a 5), .ref (a 9), .ref (a 13), .ref (a 15), .int (sD_leftParts S)] : List Value).set 6 (.int x))) = wD G a (uD_leftParts S x) := rfl
theorem z_go_drawn_ro {p : Program} {l : Launch} {e : Env} {R : Room} {s : State} {m : MethodId} {args : Array Value} {below : List Frame} {meth : Method} {c : Code} {Q : State → Prop} {cc : ByteArray} {nL : Nat} {own : String} {G : zG} {A : Nat → Prop} {k n pc : Nat} {lv : List (Nat × Value)} {st st0 : List Value} {dR dL : Nat} {r : Option Value} {a : Nat → Nat} {S : SD}  (C : zC p s m args meth c cc nL own G A) (X : zCall p l e R s m args below meth c nL G k n pc st0 st (zR dR dL) (wK G (fun i => a (i + 1)) (sD_drawn S)) (fun r1 w1 => r1 = r ∧ w1 = wK G (fun i => a (i + 1)) (sD_drawn S))) (st2 : List Value) (pc' : Nat) (hs : r.toList ++ st = st2) (hp : pc + 3 = pc') (K : zV p l e R s m args below meth c nL G A Q k n (wD G a S) pc' lv st2) : zV p l e R s m args below meth c nL G A Q k n (wD G a S) pc lv st0 :=
  z_goF C X [1, 2, 3, 4] [0, 5, 6, 7, 8, 9, 10, 11, 12, 13, 14, 15, 16] [0, 13, 14, 15, 16, 1, 2, 3, 4, 5, 6, 7, 8, 9, 10, 11, 12] ([0, 5, 6, 7, 8, 9, 10, 11, 12, 13, 14, 15, 16].filterMap fun i => (wD G a S)[i]?) (wD G a S) st2 pc' hs hp rfl rfl rfl rfl (by decide) rfl rfl K
theorem z_go_drawn {p : Program} {l : Launch} {e : Env} {R : Room} {s : State} {m : MethodId} {args : Array Value} {below : List Frame} {meth : Method} {c : Code} {Q : State → Prop} {cc : ByteArray} {nL : Nat} {own : String} {G : zG} {A : Nat → Prop} {k n pc : Nat} {lv : List (Nat × Value)} {st st0 : List Value} {dR dL : Nat} {r : Option Value} {a : Nat → Nat} {S : SD} {S' : SK} (C : zC p s m args meth c cc nL own G A) (X : zCall p l e R s m args below meth c nL G k n pc st0 st (zR dR dL) (wK G (fun i => a (i + 1)) (sD_drawn S)) (fun r1 w1 => r1 = r ∧ w1 = wK G (fun i => a (i + 1)) S')) (st2 : List Value) (pc' : Nat) (hs : r.toList ++ st = st2) (hp : pc + 3 = pc') (K : zV p l e R s m args below meth c nL G A Q k n (wD G a (uD_drawn S S')) pc' lv st2) : zV p l e R s m args below meth c nL G A Q k n (wD G a S) pc lv st0 :=
  z_goF C X [1, 2, 3, 4] [0, 5, 6, 7, 8, 9, 10, 11, 12, 13, 14, 15, 16] [0, 13, 14, 15, 16, 1, 2, 3, 4, 5, 6, 7, 8, 9, 10, 11, 12] ([0, 5, 6, 7, 8, 9, 10, 11, 12, 13, 14, 15, 16].filterMap fun i => (wD G a S)[i]?) (wD G a (uD_drawn S S')) st2 pc' hs hp rfl rfl rfl rfl (by decide) rfl rfl K
theorem z_go_ours_ro {p : Program} {l : Launch} {e : Env} {R : Room} {s : State} {m : MethodId} {args : Array Value} {below : List Frame} {meth : Method} {c : Code} {Q : State → Prop} {cc : ByteArray} {nL : Nat} {own : String} {G : zG} {A : Nat → Prop} {k n pc : Nat} {lv : List (Nat × Value)} {st st0 : List Value} {dR dL : Nat} {r : Option Value} {a : Nat → Nat} {S : SD}  (C : zC p s m args meth c cc nL own G A) (X : zCall p l e R s m args below meth c nL G k n pc st0 st (zR dR dL) (wK G (fun i => a (i + 5)) (sD_ours S)) (fun r1 w1 => r1 = r ∧ w1 = wK G (fun i => a (i + 5)) (sD_ours S))) (st2 : List Value) (pc' : Nat) (hs : r.toList ++ st = st2) (hp : pc + 3 = pc') (K : zV p l e R s m args below meth c nL G A Q k n (wD G a S) pc' lv st2) : zV p l e R s m args below meth c nL G A Q k n (wD G a S) pc lv st0 :=
  z_goF C X [5, 6, 7, 8] [0, 1, 2, 3, 4, 9, 10, 11, 12, 13, 14, 15, 16] [0, 1, 2, 3, 4, 13, 14, 15, 16, 5, 6, 7, 8, 9, 10, 11, 12] ([0, 1, 2, 3, 4, 9, 10, 11, 12, 13, 14, 15, 16].filterMap fun i => (wD G a S)[i]?) (wD G a S) st2 pc' hs hp rfl rfl rfl rfl (by decide) rfl rfl K
theorem z_go_ours {p : Program} {l : Launch} {e : Env} {R : Room} {s : State} {m : MethodId} {args : Array Value} {below : List Frame} {meth : Method} {c : Code} {Q : State → Prop} {cc : ByteArray} {nL : Nat} {own : String} {G : zG} {A : Nat → Prop} {k n pc : Nat} {lv : List (Nat × Value)} {st st0 : List Value} {dR dL : Nat} {r : Option Value} {a : Nat → Nat} {S : SD} {S' : SK} (C : zC p s m args meth c cc nL own G A) (X : zCall p l e R s m args below meth c nL G k n pc st0 st (zR dR dL) (wK G (fun i => a (i + 5)) (sD_ours S)) (fun r1 w1 => r1 = r ∧ w1 = wK G (fun i => a (i + 5)) S')) (st2 : List Value) (pc' : Nat) (hs : r.toList ++ st = st2) (hp : pc + 3 = pc') (K : zV p l e R s m args below meth c nL G A Q k n (wD G a (uD_ours S S')) pc' lv st2) : zV p l e R s m args below meth c nL G A Q k n (wD G a S) pc lv st0 :=
  z_goF C X [5, 6, 7, 8] [0, 1, 2, 3, 4, 9, 10, 11, 12, 13, 14, 15, 16] [0, 1, 2, 3, 4, 13, 14, 15, 16, 5, 6, 7, 8, 9, 10, 11, 12] ([0, 1, 2, 3, 4, 9, 10, 11, 12, 13, 14, 15, 16].filterMap fun i => (wD G a S)[i]?) (wD G a (uD_ours S S')) st2 pc' hs hp rfl rfl rfl rfl (by decide) rfl rfl K
theorem z_go_theirs_ro {p : Program} {l : Launch} {e : Env} {R : Room} {s : State} {m : MethodId} {args : Array Value} {below : List Frame} {meth : Method} {c : Code} {Q : State → Prop} {cc : ByteArray} {nL : Nat} {own : String} {G : zG} {A : Nat → Prop} {k n pc : Nat} {lv : List (Nat × Value)} {st st0 : List Value} {dR dL : Nat} {r : Option Value} {a : Nat → Nat} {S : SD}  (C : zC p s m args meth c cc nL own G A) (X : zCall p l e R s m args below meth c nL G k n pc st0 st (zR dR dL) (wK G (fun i => a (i + 9)) (sD_theirs S)) (fun r1 w1 => r1 = r ∧ w1 = wK G (fun i => a (i + 9)) (sD_theirs S))) (st2 : List Value) (pc' : Nat) (hs : r.toList ++ st = st2) (hp : pc + 3 = pc') (K : zV p l e R s m args below meth c nL G A Q k n (wD G a S) pc' lv st2) : zV p l e R s m args below meth c nL G A Q k n (wD G a S) pc lv st0 :=
  z_goF C X [9, 10, 11, 12] [0, 1, 2, 3, 4, 5, 6, 7, 8, 13, 14, 15, 16] [0, 1, 2, 3, 4, 5, 6, 7, 8, 13, 14, 15, 16, 9, 10, 11, 12] ([0, 1, 2, 3, 4, 5, 6, 7, 8, 13, 14, 15, 16].filterMap fun i => (wD G a S)[i]?) (wD G a S) st2 pc' hs hp rfl rfl rfl rfl (by decide) rfl rfl K
theorem z_go_theirs {p : Program} {l : Launch} {e : Env} {R : Room} {s : State} {m : MethodId} {args : Array Value} {below : List Frame} {meth : Method} {c : Code} {Q : State → Prop} {cc : ByteArray} {nL : Nat} {own : String} {G : zG} {A : Nat → Prop} {k n pc : Nat} {lv : List (Nat × Value)} {st st0 : List Value} {dR dL : Nat} {r : Option Value} {a : Nat → Nat} {S : SD} {S' : SK} (C : zC p s m args meth c cc nL own G A) (X : zCall p l e R s m args below meth c nL G k n pc st0 st (zR dR dL) (wK G (fun i => a (i + 9)) (sD_theirs S)) (fun r1 w1 => r1 = r ∧ w1 = wK G (fun i => a (i + 9)) S')) (st2 : List Value) (pc' : Nat) (hs : r.toList ++ st = st2) (hp : pc + 3 = pc') (K : zV p l e R s m args below meth c nL G A Q k n (wD G a (uD_theirs S S')) pc' lv st2) : zV p l e R s m args below meth c nL G A Q k n (wD G a S) pc lv st0 :=
  z_goF C X [9, 10, 11, 12] [0, 1, 2, 3, 4, 5, 6, 7, 8, 13, 14, 15, 16] [0, 1, 2, 3, 4, 5, 6, 7, 8, 13, 14, 15, 16, 9, 10, 11, 12] ([0, 1, 2, 3, 4, 5, 6, 7, 8, 13, 14, 15, 16].filterMap fun i => (wD G a S)[i]?) (wD G a (uD_theirs S S')) st2 pc' hs hp rfl rfl rfl rfl (by decide) rfl rfl K
theorem z_go_needed_ro {p : Program} {l : Launch} {e : Env} {R : Room} {s : State} {m : MethodId} {args : Array Value} {below : List Frame} {meth : Method} {c : Code} {Q : State → Prop} {cc : ByteArray} {nL : Nat} {own : String} {G : zG} {A : Nat → Prop} {k n pc : Nat} {lv : List (Nat × Value)} {st st0 : List Value} {dR dL : Nat} {r : Option Value} {a : Nat → Nat} {S : SD}  (C : zC p s m args meth c cc nL own G A) (X : zCall p l e R s m args below meth c nL G k n pc st0 st (zR dR dL) (wR G (fun i => a (i + 13)) (sD_needed S)) (fun r1 w1 => r1 = r ∧ w1 = wR G (fun i => a (i + 13)) (sD_needed S))) (st2 : List Value) (pc' : Nat) (hs : r.toList ++ st = st2) (hp : pc + 3 = pc') (K : zV p l e R s m args below meth c nL G A Q k n (wD G a S) pc' lv st2) : zV p l e R s m args below meth c nL G A Q k n (wD G a S) pc lv st0 :=
  z_goF C X [13, 14] [0, 1, 2, 3, 4, 5, 6, 7, 8, 9, 10, 11, 12, 15, 16] [0, 1, 2, 3, 4, 5, 6, 7, 8, 9, 10, 11, 12, 15, 16, 13, 14] ([0, 1, 2, 3, 4, 5, 6, 7, 8, 9, 10, 11, 12, 15, 16].filterMap fun i => (wD G a S)[i]?) (wD G a S) st2 pc' hs hp rfl rfl rfl rfl (by decide) rfl rfl K
theorem z_go_needed {p : Program} {l : Launch} {e : Env} {R : Room} {s : State} {m : MethodId} {args : Array Value} {below : List Frame} {meth : Method} {c : Code} {Q : State → Prop} {cc : ByteArray} {nL : Nat} {own : String} {G : zG} {A : Nat → Prop} {k n pc : Nat} {lv : List (Nat × Value)} {st st0 : List Value} {dR dL : Nat} {r : Option Value} {a : Nat → Nat} {S : SD} {S' : SR} (C : zC p s m args meth c cc nL own G A) (X : zCall p l e R s m args below meth c nL G k n pc st0 st (zR dR dL) (wR G (fun i => a (i + 13)) (sD_needed S)) (fun r1 w1 => r1 = r ∧ w1 = wR G (fun i => a (i + 13)) S')) (st2 : List Value) (pc' : Nat) (hs : r.toList ++ st = st2) (hp : pc + 3 = pc') (K : zV p l e R s m args below meth c nL G A Q k n (wD G a (uD_needed S S')) pc' lv st2) : zV p l e R s m args below meth c nL G A Q k n (wD G a S) pc lv st0 :=
  z_goF C X [13, 14] [0, 1, 2, 3, 4, 5, 6, 7, 8, 9, 10, 11, 12, 15, 16] [0, 1, 2, 3, 4, 5, 6, 7, 8, 9, 10, 11, 12, 15, 16, 13, 14] ([0, 1, 2, 3, 4, 5, 6, 7, 8, 9, 10, 11, 12, 15, 16].filterMap fun i => (wD G a S)[i]?) (wD G a (uD_needed S S')) st2 pc' hs hp rfl rfl rfl rfl (by decide) rfl rfl K
theorem z_go_together_ro {p : Program} {l : Launch} {e : Env} {R : Room} {s : State} {m : MethodId} {args : Array Value} {below : List Frame} {meth : Method} {c : Code} {Q : State → Prop} {cc : ByteArray} {nL : Nat} {own : String} {G : zG} {A : Nat → Prop} {k n pc : Nat} {lv : List (Nat × Value)} {st st0 : List Value} {dR dL : Nat} {r : Option Value} {a : Nat → Nat} {S : SD}  (C : zC p s m args meth c cc nL own G A) (X : zCall p l e R s m args below meth c nL G k n pc st0 st (zR dR dL) (wR G (fun i => a (i + 15)) (sD_together S)) (fun r1 w1 => r1 = r ∧ w1 = wR G (fun i => a (i + 15)) (sD_together S))) (st2 : List Value) (pc' : Nat) (hs : r.toList ++ st = st2) (hp : pc + 3 = pc') (K : zV p l e R s m args below meth c nL G A Q k n (wD G a S) pc' lv st2) : zV p l e R s m args below meth c nL G A Q k n (wD G a S) pc lv st0 :=
  z_goF C X [15, 16] [0, 1, 2, 3, 4, 5, 6, 7, 8, 9, 10, 11, 12, 13, 14] [0, 1, 2, 3, 4, 5, 6, 7, 8, 9, 10, 11, 12, 13, 14, 15, 16] ([0, 1, 2, 3, 4, 5, 6, 7, 8, 9, 10, 11, 12, 13, 14].filterMap fun i => (wD G a S)[i]?) (wD G a S) st2 pc' hs hp rfl rfl rfl rfl (by decide) rfl rfl K
theorem z_go_together {p : Program} {l : Launch} {e : Env} {R : Room} {s : State} {m : MethodId} {args : Array Value} {below : List Frame} {meth : Method} {c : Code} {Q : State → Prop} {cc : ByteArray} {nL : Nat} {own : String} {G : zG} {A : Nat → Prop} {k n pc : Nat} {lv : List (Nat × Value)} {st st0 : List Value} {dR dL : Nat} {r : Option Value} {a : Nat → Nat} {S : SD} {S' : SR} (C : zC p s m args meth c cc nL own G A) (X : zCall p l e R s m args below meth c nL G k n pc st0 st (zR dR dL) (wR G (fun i => a (i + 15)) (sD_together S)) (fun r1 w1 => r1 = r ∧ w1 = wR G (fun i => a (i + 15)) S')) (st2 : List Value) (pc' : Nat) (hs : r.toList ++ st = st2) (hp : pc + 3 = pc') (K : zV p l e R s m args below meth c nL G A Q k n (wD G a (uD_together S S')) pc' lv st2) : zV p l e R s m args below meth c nL G A Q k n (wD G a S) pc lv st0 :=
  z_goF C X [15, 16] [0, 1, 2, 3, 4, 5, 6, 7, 8, 9, 10, 11, 12, 13, 14] [0, 1, 2, 3, 4, 5, 6, 7, 8, 9, 10, 11, 12, 13, 14, 15, 16] ([0, 1, 2, 3, 4, 5, 6, 7, 8, 9, 10, 11, 12, 13, 14].filterMap fun i => (wD G a S)[i]?) (wD G a (uD_together S S')) st2 pc' hs hp rfl rfl rfl rfl (by decide) rfl rfl K
theorem znr_i (x : Int32) : narrow .int (.int x) = .int x := rfl
theorem zft_i (x : Int32) : fits .int (.int x) = true := rfl
theorem znr_l (x : Int64) : narrow .long (.long x) = .long x := rfl
theorem zft_l (x : Int64) : fits .long (.long x) = true := rfl
theorem bi_nar {x : Int32} (h : x = 0 ∨ x = 1) : narrow .boolean (.int x) = .int x := by rcases h with rfl | rfl <;> rfl
theorem zi_succ {i b : Int32} (h : i < b) : (i + 1).toInt = i.toInt + 1 := by
  have h1 := Int32.lt_iff_toInt_lt.mp h
  have h2 := Int32.toInt_lt b
  have h3 := Int32.le_toInt i
  rw [Int32.toInt_add]
  have e1 : (1 : Int32).toInt = 1 := by decide
  rw [e1]
  apply Int.bmod_eq_of_le <;> omega
theorem zdec {i b : Int32} {n : Nat} (h : ¬ b ≤ i) (hm : (b.toInt - i.toInt).toNat < n + 1) : (b.toInt - (i + 1).toInt).toNat < n := by
  have h0 : i < b := Int32.not_le.mp h
  have h1 := Int32.lt_iff_toInt_lt.mp h0
  rw [zi_succ h0]
  omega
theorem zdecD {i : Int32} {n : Nat} (h : ¬ i < 0) (hm : (i.toInt + 1).toNat < n + 1) : ((i + (-1)).toInt + 1).toNat < n := by
  have h0 : 0 ≤ i := Int32.not_lt.mp h
  have h1 := Int32.le_iff_toInt_le.mp h0
  have h2 := Int32.toInt_lt i
  have e0 : (0 : Int32).toInt = 0 := by decide
  have e1 : (-1 : Int32).toInt = -1 := by decide
  rw [e0] at h1
  rw [Int32.toInt_add, e1, Int.bmod_eq_of_le (by omega) (by omega)]
  omega
end
section
def F_K_count (S : SK)  : Int32 :=
  (sK_parts S)
set_option maxRecDepth 100000 in
set_option maxHeartbeats 4000000 in
theorem c_K_count (G : zG) (l : Launch) (a : Nat → Nat) (S : SK)   : zM G l y_K_count b_K_count 1 (some .int) (zR 0 0) [.ref (a 0)] (wK G a S) (fun r1 w1 => r1 = some (.int (F_K_count S)) ∧ w1 = wK G a S) := by
  generalize hPost : (fun (r1 : Option Value) (w1 : va_W) => r1 = some (.int (F_K_count S)) ∧ w1 = wK G a S) = Post
  have hq : Post (some (.int (F_K_count S))) (wK G a S) := by rw [← hPost]; exact ⟨rfl, rfl⟩
  clear hPost
  refine zM_of (by decide) (Nat.le_of_ble_eq_true rfl) ?_
  intro p e s m args below meth c C hlk hr hin
  refine z_aload_n C 1 d_K_count_0 rfl rfl ?_
  refine z_get C kf_K_29 0 (v := .int (sK_parts S)) 4 d_K_count_1 rfl rfl rfl ?_
  exact z_iret C hlk hr d_K_count_4 (by rw [show F_K_count S = (sK_parts S) from by rw [F_K_count]] at hq; exact hq)

def F_K_allParts (S : SK)  : Int32 :=
  ((1 <<< ((sK_parts S) &&& 31)) - 1)
set_option maxRecDepth 100000 in
set_option maxHeartbeats 4000000 in
theorem c_K_allParts (G : zG) (l : Launch) (a : Nat → Nat) (S : SK)   : zM G l y_K_allParts b_K_allParts 1 (some .int) (zR 0 0) [.ref (a 0)] (wK G a S) (fun r1 w1 => r1 = some (.int (F_K_allParts S)) ∧ w1 = wK G a S) := by
  generalize hPost : (fun (r1 : Option Value) (w1 : va_W) => r1 = some (.int (F_K_allParts S)) ∧ w1 = wK G a S) = Post
  have hq : Post (some (.int (F_K_allParts S))) (wK G a S) := by rw [← hPost]; exact ⟨rfl, rfl⟩
  clear hPost
  refine zM_of (by decide) (Nat.le_of_ble_eq_true rfl) ?_
  intro p e s m args below meth c C hlk hr hin
  refine z_iconst C 1 1 d_K_allParts_0 rfl (by decide) ?_
  refine z_aload_n C 2 d_K_allParts_1 rfl rfl ?_
  refine z_get C kf_K_29 0 (v := .int (sK_parts S)) 5 d_K_allParts_2 rfl rfl rfl ?_
  refine z_ishl C 6 d_K_allParts_5 rfl ?_
  refine z_iconst C 1 7 d_K_allParts_6 rfl (by decide) ?_
  refine z_isub C 8 d_K_allParts_7 rfl ?_
  exact z_iret C hlk hr d_K_allParts_8 (by rw [show F_K_allParts S = ((1 <<< ((sK_parts S) &&& 31)) - 1) from by rw [F_K_allParts]] at hq; exact hq)

def F_K_has (S : SK) (x1 : Int32) : Int32 :=
  if x1 < 0 then
    0
  else
    if (sK_parts S) ≤ x1 then
      0
    else
      if 21 ≤ x1 then
        0
      else
        1
set_option maxRecDepth 100000 in
set_option maxHeartbeats 4000000 in
theorem c_K_has (G : zG) (l : Launch) (a : Nat → Nat) (S : SK) (x1 : Int32)  : zM G l y_K_has b_K_has 2 (some .boolean) (zR 0 0) [.ref (a 0), .int x1] (wK G a S) (fun r1 w1 => r1 = some (.int (F_K_has S x1)) ∧ w1 = wK G a S) := by
  generalize hPost : (fun (r1 : Option Value) (w1 : va_W) => r1 = some (.int (F_K_has S x1)) ∧ w1 = wK G a S) = Post
  have hq : Post (some (.int (F_K_has S x1))) (wK G a S) := by rw [← hPost]; exact ⟨rfl, rfl⟩
  clear hPost
  refine zM_of (by decide) (Nat.le_of_ble_eq_true rfl) ?_
  intro p e s m args below meth c C hlk hr hin
  refine z_iload_n C 1 d_K_has_0 rfl rfl ?_
  refine z_if_lt C 22 4 d_K_has_1 (by decide) rfl (fun c_1 => ?_) (fun c_1 => ?_)
  · refine z_iconst C 0 23 d_K_has_22 rfl (by decide) ?_
    exact z_zret C hlk rfl hr d_K_has_23 (by rw [show F_K_has S x1 = 0 from by rw [F_K_has, if_pos c_1]] at hq; exact hq)
  · refine z_iload_n C 5 d_K_has_4 rfl rfl ?_
    refine z_aload_n C 6 d_K_has_5 rfl rfl ?_
    refine z_get C kf_K_29 0 (v := .int (sK_parts S)) 9 d_K_has_6 rfl rfl rfl ?_
    refine z_icmp_ge C 22 12 d_K_has_9 (by decide) rfl (fun c_9 => ?_) (fun c_9 => ?_)
    · refine z_iconst C 0 23 d_K_has_22 rfl (by decide) ?_
      exact z_zret C hlk rfl hr d_K_has_23 (by rw [show F_K_has S x1 = 0 from by rw [F_K_has, if_neg c_1, if_pos c_9]] at hq; exact hq)
    · refine z_iload_n C 13 d_K_has_12 rfl rfl ?_
      refine z_bipush C 21 15 d_K_has_13 rfl (by decide) ?_
      refine z_icmp_ge C 22 18 d_K_has_15 (by decide) rfl (fun c_15 => ?_) (fun c_15 => ?_)
      · refine z_iconst C 0 23 d_K_has_22 rfl (by decide) ?_
        exact z_zret C hlk rfl hr d_K_has_23 (by rw [show F_K_has S x1 = 0 from by rw [F_K_has, if_neg c_1, if_neg c_9, if_pos c_15]] at hq; exact hq)
      · refine z_iconst C 1 19 d_K_has_18 rfl (by decide) ?_
        refine z_goto C 23 d_K_has_19 (by decide) ?_
        exact z_zret C hlk rfl hr d_K_has_23 (by rw [show F_K_has S x1 = 1 from by rw [F_K_has, if_neg c_1, if_neg c_9, if_neg c_15]] at hq; exact hq)


theorem kx_nz {P Q : Prop} {x : Int32} (h : ¬ x = 0) (e : x = 0) : P := absurd e h
theorem kx_has {S : SK} {i : Int32} (h : ¬ F_K_has S i = 0) : ∃ j : Nat, j < 21 ∧ i = nI j := by
  unfold F_K_has at h
  by_cases h1 : i < 0
  · rw [if_pos h1] at h; exact absurd rfl h
  · rw [if_neg h1] at h
    by_cases h2 : sK_parts S ≤ i
    · rw [if_pos h2] at h; exact absurd rfl h
    · rw [if_neg h2] at h
      by_cases h3 : 21 ≤ i
      · rw [if_pos h3] at h; exact absurd rfl h
      · obtain ⟨j, hj, e⟩ := nI_of h1
        refine ⟨j, ?_, e⟩
        subst e
        rcases Nat.lt_or_ge j 21 with q | q
        · exact q
        · exact absurd (nI_le q hj) h3
theorem kx_has1 {S : SK} {i : Int32} (h : ¬ F_K_has S i = 0) : vp_in i 21 := by
  obtain ⟨j, hj, rfl⟩ := kx_has h
  exact vp_in_nI hj (by decide)
theorem kx_n3 (j u : Nat) : nI j * 3 + nI u = nI (j * 3 + u) := by
  rw [show (3 : Int32) = nI 3 from rfl, pk_mul, nI_add]
theorem kx_num {S : SK} {i w : Int32} (h : ¬ F_K_has S i = 0) (h1 : ¬ w < 0) (h2 : w < 3) : vp_in (i * 3 + w) 63 := by
  obtain ⟨j, hj, rfl⟩ := kx_has h
  obtain ⟨u, hu, rfl⟩ := nI_of h1
  rw [kx_n3]
  refine vp_in_nI ?_ (by decide)
  have : u < 3 := (nI_ltI hu (by decide)).mp h2
  omega
theorem kx_p0 {S : SK} {i : Int32} (h : ¬ F_K_has S i = 0) : vp_in (i * 3) 63 := by
  obtain ⟨j, hj, rfl⟩ := kx_has h
  rw [show (3 : Int32) = nI 3 from rfl, pk_mul]
  exact vp_in_nI (by omega) (by decide)
theorem kx_p1 {S : SK} {i : Int32} (h : ¬ F_K_has S i = 0) : vp_in (i * 3 + 1) 63 := kx_num h (by decide) (by decide)
theorem kx_p2 {S : SK} {i : Int32} (h : ¬ F_K_has S i = 0) : vp_in (i * 3 + 2) 63 := kx_num h (by decide) (by decide)
theorem kx_ix {i b : Int32} {n : Nat} (hb : b = nI n) (hn : n < 2 ^ 31) (h : ¬ i < 0) (h2 : i < b) : vp_in i n := by
  obtain ⟨j, hj, rfl⟩ := nI_of h
  rw [hb] at h2
  exact vp_in_nI ((nI_ltI hj hn).mp h2) hn
theorem kx_ge1 {n : Int32} (h : 1 ≤ n) : ¬ n = 0 := by
  rintro rfl
  exact absurd h (by decide)

def F_K_number (S : SK) (x1 : Int32) (x2 : Int32) : Int32 :=
  if (F_K_has S x1) = 0 then
    (-1)
  else
    if x2 < 0 then
      (-1)
    else
      if x2 < 3 then
        ((sK_numbers S) (Int32.toNatClampNeg ((x1 * 3) + x2)))
      else
        (-1)
set_option maxRecDepth 100000 in
set_option maxHeartbeats 4000000 in
theorem c_K_number (G : zG) (l : Launch) (a : Nat → Nat) (S : SK) (x1 : Int32) (x2 : Int32)  : zM G l y_K_number b_K_number 3 (some .int) (zR 1 21) [.ref (a 0), .int x1, .int x2] (wK G a S) (fun r1 w1 => r1 = some (.int (F_K_number S x1 x2)) ∧ w1 = wK G a S) := by
  generalize hPost : (fun (r1 : Option Value) (w1 : va_W) => r1 = some (.int (F_K_number S x1 x2)) ∧ w1 = wK G a S) = Post
  have hq : Post (some (.int (F_K_number S x1 x2))) (wK G a S) := by rw [← hPost]; exact ⟨rfl, rfl⟩
  clear hPost
  refine zM_of (by decide) (Nat.le_of_ble_eq_true rfl) ?_
  intro p e s m args below meth c C hlk hr hin
  refine z_aload_n C 1 d_K_number_0 rfl rfl ?_
  refine z_iload_n C 2 d_K_number_1 rfl rfl ?_
  refine z_goA C (z_V C kc_K_35 (c_K_has G l a S x1) (st := []) 0 0 rfl rfl rfl rfl (Nat.le_of_ble_eq_true rfl) ⟨⟨Nat.le_of_ble_eq_true rfl, Nat.le_of_ble_eq_true rfl⟩, Nat.le_of_ble_eq_true rfl, Nat.le_of_ble_eq_true rfl⟩ d_K_number_2) [.int (F_K_has S x1)] 5 rfl rfl ?_
  refine z_if_eq C 17 8 d_K_number_5 (by decide) rfl (fun c_5 => ?_) (fun c_5 => ?_)
  · refine z_iconst C (-1) 18 d_K_number_17 rfl (by decide) ?_
    exact z_iret C hlk hr d_K_number_18 (by rw [show F_K_number S x1 x2 = (-1) from by rw [F_K_number, if_pos c_5]] at hq; exact hq)
  · refine z_iload_n C 9 d_K_number_8 rfl rfl ?_
    refine z_if_lt C 17 12 d_K_number_9 (by decide) rfl (fun c_9 => ?_) (fun c_9 => ?_)
    · refine z_iconst C (-1) 18 d_K_number_17 rfl (by decide) ?_
      exact z_iret C hlk hr d_K_number_18 (by rw [show F_K_number S x1 x2 = (-1) from by rw [F_K_number, if_neg c_5, if_pos c_9]] at hq; exact hq)
    · refine z_iload_n C 13 d_K_number_12 rfl rfl ?_
      refine z_iconst C 3 14 d_K_number_13 rfl (by decide) ?_
      refine z_icmp_lt C 19 17 d_K_number_14 (by decide) rfl (fun c_14 => ?_) (fun c_14 => ?_)
      · refine z_aload_n C 20 d_K_number_19 rfl rfl ?_
        refine z_get C kf_K_9 0 (v := .ref (a 1)) 23 d_K_number_20 rfl rfl rfl ?_
        refine z_iload_n C 24 d_K_number_23 rfl rfl ?_
        refine z_iconst C 3 25 d_K_number_24 rfl (by decide) ?_
        refine z_imul C 26 d_K_number_25 rfl ?_
        refine z_iload_n C 27 d_K_number_26 rfl rfl ?_
        refine z_iadd C 28 d_K_number_27 rfl ?_
        refine z_iald C 1 0 (f := (sK_numbers S)) 29 d_K_number_28 rfl rfl rfl (kx_num c_5 c_9 c_14) ?_
        exact z_iret C hlk hr d_K_number_29 (by rw [show F_K_number S x1 x2 = ((sK_numbers S) (Int32.toNatClampNeg ((x1 * 3) + x2))) from by rw [F_K_number, if_neg c_5, if_neg c_9, if_pos c_14]] at hq; exact hq)
      · refine z_iconst C (-1) 18 d_K_number_17 rfl (by decide) ?_
        exact z_iret C hlk hr d_K_number_18 (by rw [show F_K_number S x1 x2 = (-1) from by rw [F_K_number, if_neg c_5, if_neg c_9, if_neg c_14]] at hq; exact hq)

def F_K_sign (S : SK) (x1 : Int32) : Int32 :=
  if x1 < 0 then
    (-1)
  else
    if (sK_signsUsed S) ≤ x1 then
      (-1)
    else
      if x1 < 147 then
        ((sK_signs S) (Int32.toNatClampNeg x1))
      else
        (-1)
set_option maxRecDepth 100000 in
set_option maxHeartbeats 4000000 in
theorem c_K_sign (G : zG) (l : Launch) (a : Nat → Nat) (S : SK) (x1 : Int32)  : zM G l y_K_sign b_K_sign 2 (some .int) (zR 0 0) [.ref (a 0), .int x1] (wK G a S) (fun r1 w1 => r1 = some (.int (F_K_sign S x1)) ∧ w1 = wK G a S) := by
  generalize hPost : (fun (r1 : Option Value) (w1 : va_W) => r1 = some (.int (F_K_sign S x1)) ∧ w1 = wK G a S) = Post
  have hq : Post (some (.int (F_K_sign S x1))) (wK G a S) := by rw [← hPost]; exact ⟨rfl, rfl⟩
  clear hPost
  refine zM_of (by decide) (Nat.le_of_ble_eq_true rfl) ?_
  intro p e s m args below meth c C hlk hr hin
  refine z_iload_n C 1 d_K_sign_0 rfl rfl ?_
  refine z_if_lt C 21 4 d_K_sign_1 (by decide) rfl (fun c_1 => ?_) (fun c_1 => ?_)
  · refine z_iconst C (-1) 22 d_K_sign_21 rfl (by decide) ?_
    exact z_iret C hlk hr d_K_sign_22 (by rw [show F_K_sign S x1 = (-1) from by rw [F_K_sign, if_pos c_1]] at hq; exact hq)
  · refine z_iload_n C 5 d_K_sign_4 rfl rfl ?_
    refine z_aload_n C 6 d_K_sign_5 rfl rfl ?_
    refine z_get C kf_K_32 0 (v := .int (sK_signsUsed S)) 9 d_K_sign_6 rfl rfl rfl ?_
    refine z_icmp_ge C 21 12 d_K_sign_9 (by decide) rfl (fun c_9 => ?_) (fun c_9 => ?_)
    · refine z_iconst C (-1) 22 d_K_sign_21 rfl (by decide) ?_
      exact z_iret C hlk hr d_K_sign_22 (by rw [show F_K_sign S x1 = (-1) from by rw [F_K_sign, if_neg c_1, if_pos c_9]] at hq; exact hq)
    · refine z_iload_n C 13 d_K_sign_12 rfl rfl ?_
      refine z_aload_n C 14 d_K_sign_13 rfl rfl ?_
      refine z_get C kf_K_15 0 (v := .ref (a 2)) 17 d_K_sign_14 rfl rfl rfl ?_
      refine z_alen C 2 0 147 18 d_K_sign_17 rfl rfl rfl rfl ?_
      refine z_icmp_lt C 23 21 d_K_sign_18 (by decide) rfl (fun c_18 => ?_) (fun c_18 => ?_)
      · refine z_aload_n C 24 d_K_sign_23 rfl rfl ?_
        refine z_get C kf_K_15 0 (v := .ref (a 2)) 27 d_K_sign_24 rfl rfl rfl ?_
        refine z_iload_n C 28 d_K_sign_27 rfl rfl ?_
        refine z_iald C 2 0 (f := (sK_signs S)) 29 d_K_sign_28 rfl rfl rfl (kx_ix rfl (by decide) c_1 c_18) ?_
        exact z_iret C hlk hr d_K_sign_29 (by rw [show F_K_sign S x1 = ((sK_signs S) (Int32.toNatClampNeg x1)) from by rw [F_K_sign, if_neg c_1, if_neg c_9, if_pos c_18]] at hq; exact hq)
      · refine z_iconst C (-1) 22 d_K_sign_21 rfl (by decide) ?_
        exact z_iret C hlk hr d_K_sign_22 (by rw [show F_K_sign S x1 = (-1) from by rw [F_K_sign, if_neg c_1, if_neg c_9, if_neg c_18]] at hq; exact hq)

def F_K_next (S : SK) (x1 : Int32) : Int32 × SK :=
  if 1 ≤ x1 then
    (((Int64.toInt32 ((Int64.toUInt64 (((sK_chance S) * 6364136223846793005) + 1442695040888963407) >>> ((Int32.toInt64 33).toUInt64 &&& Int64.toUInt64 63)).toInt64)) - (Int64.toInt32 ((Int64.toUInt64 (((sK_chance S) * 6364136223846793005) + 1442695040888963407) >>> ((Int32.toInt64 33).toUInt64 &&& Int64.toUInt64 63)).toInt64)) / x1 * x1), (uK_chance S (((sK_chance S) * 6364136223846793005) + 1442695040888963407)))
  else
    (0, (uK_chance S (((sK_chance S) * 6364136223846793005) + 1442695040888963407)))
set_option maxRecDepth 100000 in
set_option maxHeartbeats 4000000 in
theorem c_K_next (G : zG) (l : Launch) (a : Nat → Nat) (S : SK) (x1 : Int32)  : zM G l y_K_next b_K_next 3 (some .int) (zR 0 0) [.ref (a 0), .int x1] (wK G a S) (fun r1 w1 => r1 = some (.int (F_K_next S x1).1) ∧ w1 = wK G a (F_K_next S x1).2) := by
  generalize hPost : (fun (r1 : Option Value) (w1 : va_W) => r1 = some (.int (F_K_next S x1).1) ∧ w1 = wK G a (F_K_next S x1).2) = Post
  have hq : Post (some (.int (F_K_next S x1).1)) (wK G a (F_K_next S x1).2) := by rw [← hPost]; exact ⟨rfl, rfl⟩
  clear hPost
  refine zM_of (by decide) (Nat.le_of_ble_eq_true rfl) ?_
  intro p e s m args below meth c C hlk hr hin
  refine z_aload_n C 1 d_K_next_0 rfl rfl ?_
  refine z_aload_n C 2 d_K_next_1 rfl rfl ?_
  refine z_get C kf_K_21 0 (v := .long (sK_chance S)) 5 d_K_next_2 rfl rfl rfl ?_
  refine z_ldc2 C 6364136223846793005 8 d_K_next_5 rfl kk_K_102 ?_
  refine z_lmul C 9 d_K_next_8 rfl ?_
  refine z_ldc2 C 1442695040888963407 12 d_K_next_9 rfl kk_K_104 ?_
  refine z_ladd C 13 d_K_next_12 rfl ?_
  refine z_put C kf_K_21 kp_K 0 (wK G a (uK_chance S (((sK_chance S) * 6364136223846793005) + 1442695040888963407))) 16 d_K_next_13 rfl rfl rfl (znr_l _) (zft_l _) (Nat.le_of_ble_eq_true rfl) (wK_put_chance G a S (((sK_chance S) * 6364136223846793005) + 1442695040888963407)) ?_
  refine z_aload_n C 17 d_K_next_16 rfl rfl ?_
  refine z_get C kf_K_21 0 (v := .long (((sK_chance S) * 6364136223846793005) + 1442695040888963407)) 20 d_K_next_17 rfl rfl rfl ?_
  refine z_bipush C 33 22 d_K_next_20 rfl (by decide) ?_
  refine z_lushr C 23 d_K_next_22 rfl ?_
  refine z_l2i C 24 d_K_next_23 rfl ?_
  refine z_istore_n C [(2, .int (Int64.toInt32 ((Int64.toUInt64 (((sK_chance S) * 6364136223846793005) + 1442695040888963407) >>> ((Int32.toInt64 33).toUInt64 &&& Int64.toUInt64 63)).toInt64))), (0, .ref (a 0)), (1, .int x1)] 25 d_K_next_24 rfl (by decide) rfl ?_
  refine z_iload_n C 26 d_K_next_25 rfl rfl ?_
  refine z_iconst C 1 27 d_K_next_26 rfl (by decide) ?_
  refine z_icmp_ge C 34 30 d_K_next_27 (by decide) rfl (fun c_27 => ?_) (fun c_27 => ?_)
  · refine z_iload_n C 35 d_K_next_34 rfl rfl ?_
    refine z_iload_n C 36 d_K_next_35 rfl rfl ?_
    refine z_irem C 37 d_K_next_36 rfl (kx_ge1 c_27) ?_
    exact z_iret C hlk hr d_K_next_37 (by rw [show F_K_next S x1 = (((Int64.toInt32 ((Int64.toUInt64 (((sK_chance S) * 6364136223846793005) + 1442695040888963407) >>> ((Int32.toInt64 33).toUInt64 &&& Int64.toUInt64 63)).toInt64)) - (Int64.toInt32 ((Int64.toUInt64 (((sK_chance S) * 6364136223846793005) + 1442695040888963407) >>> ((Int32.toInt64 33).toUInt64 &&& Int64.toUInt64 63)).toInt64)) / x1 * x1), (uK_chance S (((sK_chance S) * 6364136223846793005) + 1442695040888963407))) from by rw [F_K_next, if_pos c_27]] at hq; exact hq)
  · refine z_iconst C 0 31 d_K_next_30 rfl (by decide) ?_
    refine z_goto C 37 d_K_next_31 (by decide) ?_
    exact z_iret C hlk hr d_K_next_37 (by rw [show F_K_next S x1 = (0, (uK_chance S (((sK_chance S) * 6364136223846793005) + 1442695040888963407))) from by rw [F_K_next, if_neg c_27]] at hq; exact hq)

def F_K_put (S : SK) (x1 : Int32) (x2 : Int32) (x3 : Int32) (x4 : Int32) : SK :=
  if (F_K_has S x1) = 0 then
    S
  else
    (uK_numbers (uK_numbers (uK_numbers S (upd (sK_numbers S) (Int32.toNatClampNeg (x1 * 3)) x2)) (upd (upd (sK_numbers S) (Int32.toNatClampNeg (x1 * 3)) x2) (Int32.toNatClampNeg ((x1 * 3) + 1)) x3)) (upd (upd (upd (sK_numbers S) (Int32.toNatClampNeg (x1 * 3)) x2) (Int32.toNatClampNeg ((x1 * 3) + 1)) x3) (Int32.toNatClampNeg ((x1 * 3) + 2)) x4))
set_option maxRecDepth 100000 in
set_option maxHeartbeats 4000000 in
theorem c_K_put (G : zG) (l : Launch) (a : Nat → Nat) (S : SK) (x1 : Int32) (x2 : Int32) (x3 : Int32) (x4 : Int32)  : zM G l y_K_put b_K_put 5 (none) (zR 1 21) [.ref (a 0), .int x1, .int x2, .int x3, .int x4] (wK G a S) (fun r1 w1 => r1 = none ∧ w1 = wK G a (F_K_put S x1 x2 x3 x4)) := by
  generalize hPost : (fun (r1 : Option Value) (w1 : va_W) => r1 = none ∧ w1 = wK G a (F_K_put S x1 x2 x3 x4)) = Post
  have hq : Post (none) (wK G a (F_K_put S x1 x2 x3 x4)) := by rw [← hPost]; exact ⟨rfl, rfl⟩
  clear hPost
  refine zM_of (by decide) (Nat.le_of_ble_eq_true rfl) ?_
  intro p e s m args below meth c C hlk hr hin
  refine z_aload_n C 1 d_K_put_0 rfl rfl ?_
  refine z_iload_n C 2 d_K_put_1 rfl rfl ?_
  refine z_goA C (z_V C kc_K_35 (c_K_has G l a S x1) (st := []) 0 0 rfl rfl rfl rfl (Nat.le_of_ble_eq_true rfl) ⟨⟨Nat.le_of_ble_eq_true rfl, Nat.le_of_ble_eq_true rfl⟩, Nat.le_of_ble_eq_true rfl, Nat.le_of_ble_eq_true rfl⟩ d_K_put_2) [.int (F_K_has S x1)] 5 rfl rfl ?_
  refine z_if_eq C 40 8 d_K_put_5 (by decide) rfl (fun c_5 => ?_) (fun c_5 => ?_)
  · exact z_vret C hlk hr d_K_put_40 (by rw [show F_K_put S x1 x2 x3 x4 = S from by rw [F_K_put, if_pos c_5]] at hq; exact hq)
  · refine z_aload_n C 9 d_K_put_8 rfl rfl ?_
    refine z_get C kf_K_9 0 (v := .ref (a 1)) 12 d_K_put_9 rfl rfl rfl ?_
    refine z_iload_n C 13 d_K_put_12 rfl rfl ?_
    refine z_iconst C 3 14 d_K_put_13 rfl (by decide) ?_
    refine z_imul C 15 d_K_put_14 rfl ?_
    refine z_iload_n C 16 d_K_put_15 rfl rfl ?_
    refine z_iast C 1 0 (f := (sK_numbers S)) (wK G a (uK_numbers S (upd (sK_numbers S) (Int32.toNatClampNeg (x1 * 3)) x2))) 17 d_K_put_16 rfl rfl rfl (kx_p0 c_5) (wK_set_numbers G a S (upd (sK_numbers S) (Int32.toNatClampNeg (x1 * 3)) x2)) ?_
    refine z_aload_n C 18 d_K_put_17 rfl rfl ?_
    refine z_get C kf_K_9 0 (v := .ref (a 1)) 21 d_K_put_18 rfl rfl rfl ?_
    refine z_iload_n C 22 d_K_put_21 rfl rfl ?_
    refine z_iconst C 3 23 d_K_put_22 rfl (by decide) ?_
    refine z_imul C 24 d_K_put_23 rfl ?_
    refine z_iconst C 1 25 d_K_put_24 rfl (by decide) ?_
    refine z_iadd C 26 d_K_put_25 rfl ?_
    refine z_iload_n C 27 d_K_put_26 rfl rfl ?_
    refine z_iast C 1 0 (f := (upd (sK_numbers S) (Int32.toNatClampNeg (x1 * 3)) x2)) (wK G a (uK_numbers (uK_numbers S (upd (sK_numbers S) (Int32.toNatClampNeg (x1 * 3)) x2)) (upd (upd (sK_numbers S) (Int32.toNatClampNeg (x1 * 3)) x2) (Int32.toNatClampNeg ((x1 * 3) + 1)) x3))) 28 d_K_put_27 rfl rfl rfl (kx_p1 c_5) (wK_set_numbers G a (uK_numbers S (upd (sK_numbers S) (Int32.toNatClampNeg (x1 * 3)) x2)) (upd (upd (sK_numbers S) (Int32.toNatClampNeg (x1 * 3)) x2) (Int32.toNatClampNeg ((x1 * 3) + 1)) x3)) ?_
    refine z_aload_n C 29 d_K_put_28 rfl rfl ?_
    refine z_get C kf_K_9 0 (v := .ref (a 1)) 32 d_K_put_29 rfl rfl rfl ?_
    refine z_iload_n C 33 d_K_put_32 rfl rfl ?_
    refine z_iconst C 3 34 d_K_put_33 rfl (by decide) ?_
    refine z_imul C 35 d_K_put_34 rfl ?_
    refine z_iconst C 2 36 d_K_put_35 rfl (by decide) ?_
    refine z_iadd C 37 d_K_put_36 rfl ?_
    refine z_iload C 39 d_K_put_37 rfl rfl ?_
    refine z_iast C 1 0 (f := (upd (upd (sK_numbers S) (Int32.toNatClampNeg (x1 * 3)) x2) (Int32.toNatClampNeg ((x1 * 3) + 1)) x3)) (wK G a (uK_numbers (uK_numbers (uK_numbers S (upd (sK_numbers S) (Int32.toNatClampNeg (x1 * 3)) x2)) (upd (upd (sK_numbers S) (Int32.toNatClampNeg (x1 * 3)) x2) (Int32.toNatClampNeg ((x1 * 3) + 1)) x3)) (upd (upd (upd (sK_numbers S) (Int32.toNatClampNeg (x1 * 3)) x2) (Int32.toNatClampNeg ((x1 * 3) + 1)) x3) (Int32.toNatClampNeg ((x1 * 3) + 2)) x4))) 40 d_K_put_39 rfl rfl rfl (kx_p2 c_5) (wK_set_numbers G a (uK_numbers (uK_numbers S (upd (sK_numbers S) (Int32.toNatClampNeg (x1 * 3)) x2)) (upd (upd (sK_numbers S) (Int32.toNatClampNeg (x1 * 3)) x2) (Int32.toNatClampNeg ((x1 * 3) + 1)) x3)) (upd (upd (upd (sK_numbers S) (Int32.toNatClampNeg (x1 * 3)) x2) (Int32.toNatClampNeg ((x1 * 3) + 1)) x3) (Int32.toNatClampNeg ((x1 * 3) + 2)) x4)) ?_
    exact z_vret C hlk hr d_K_put_40 (by rw [show F_K_put S x1 x2 x3 x4 = (uK_numbers (uK_numbers (uK_numbers S (upd (sK_numbers S) (Int32.toNatClampNeg (x1 * 3)) x2)) (upd (upd (sK_numbers S) (Int32.toNatClampNeg (x1 * 3)) x2) (Int32.toNatClampNeg ((x1 * 3) + 1)) x3)) (upd (upd (upd (sK_numbers S) (Int32.toNatClampNeg (x1 * 3)) x2) (Int32.toNatClampNeg ((x1 * 3) + 1)) x3) (Int32.toNatClampNeg ((x1 * 3) + 2)) x4)) from by rw [F_K_put, if_neg c_5]] at hq; exact hq)

def F_K_addSign (S : SK) (x1 : Int32) : SK :=
  if (sK_signsUsed S) < 0 then
    S
  else
    if 147 ≤ (sK_signsUsed S) then
      S
    else
      (uK_signsUsed (uK_signs S (upd (sK_signs S) (Int32.toNatClampNeg (sK_signsUsed S)) x1)) ((sK_signsUsed S) + 1))
set_option maxRecDepth 100000 in
set_option maxHeartbeats 4000000 in
theorem c_K_addSign (G : zG) (l : Launch) (a : Nat → Nat) (S : SK) (x1 : Int32)  : zM G l y_K_addSign b_K_addSign 2 (none) (zR 0 0) [.ref (a 0), .int x1] (wK G a S) (fun r1 w1 => r1 = none ∧ w1 = wK G a (F_K_addSign S x1)) := by
  generalize hPost : (fun (r1 : Option Value) (w1 : va_W) => r1 = none ∧ w1 = wK G a (F_K_addSign S x1)) = Post
  have hq : Post (none) (wK G a (F_K_addSign S x1)) := by rw [← hPost]; exact ⟨rfl, rfl⟩
  clear hPost
  refine zM_of (by decide) (Nat.le_of_ble_eq_true rfl) ?_
  intro p e s m args below meth c C hlk hr hin
  refine z_aload_n C 1 d_K_addSign_0 rfl rfl ?_
  refine z_get C kf_K_32 0 (v := .int (sK_signsUsed S)) 4 d_K_addSign_1 rfl rfl rfl ?_
  refine z_if_lt C 39 7 d_K_addSign_4 (by decide) rfl (fun c_4 => ?_) (fun c_4 => ?_)
  · exact z_vret C hlk hr d_K_addSign_39 (by rw [show F_K_addSign S x1 = S from by rw [F_K_addSign, if_pos c_4]] at hq; exact hq)
  · refine z_aload_n C 8 d_K_addSign_7 rfl rfl ?_
    refine z_get C kf_K_32 0 (v := .int (sK_signsUsed S)) 11 d_K_addSign_8 rfl rfl rfl ?_
    refine z_aload_n C 12 d_K_addSign_11 rfl rfl ?_
    refine z_get C kf_K_15 0 (v := .ref (a 2)) 15 d_K_addSign_12 rfl rfl rfl ?_
    refine z_alen C 2 0 147 16 d_K_addSign_15 rfl rfl rfl rfl ?_
    refine z_icmp_ge C 39 19 d_K_addSign_16 (by decide) rfl (fun c_16 => ?_) (fun c_16 => ?_)
    · exact z_vret C hlk hr d_K_addSign_39 (by rw [show F_K_addSign S x1 = S from by rw [F_K_addSign, if_neg c_4, if_pos c_16]] at hq; exact hq)
    · refine z_aload_n C 20 d_K_addSign_19 rfl rfl ?_
      refine z_get C kf_K_15 0 (v := .ref (a 2)) 23 d_K_addSign_20 rfl rfl rfl ?_
      refine z_aload_n C 24 d_K_addSign_23 rfl rfl ?_
      refine z_get C kf_K_32 0 (v := .int (sK_signsUsed S)) 27 d_K_addSign_24 rfl rfl rfl ?_
      refine z_iload_n C 28 d_K_addSign_27 rfl rfl ?_
      refine z_iast C 2 0 (f := (sK_signs S)) (wK G a (uK_signs S (upd (sK_signs S) (Int32.toNatClampNeg (sK_signsUsed S)) x1))) 29 d_K_addSign_28 rfl rfl rfl (kx_ix rfl (by decide) c_4 (Int32.not_le.mp c_16)) (wK_set_signs G a S (upd (sK_signs S) (Int32.toNatClampNeg (sK_signsUsed S)) x1)) ?_
      refine z_aload_n C 30 d_K_addSign_29 rfl rfl ?_
      refine z_dup C 31 d_K_addSign_30 rfl rfl ?_
      refine z_get C kf_K_32 0 (v := .int (sK_signsUsed S)) 34 d_K_addSign_31 rfl rfl rfl ?_
      refine z_iconst C 1 35 d_K_addSign_34 rfl (by decide) ?_
      refine z_iadd C 36 d_K_addSign_35 rfl ?_
      refine z_put C kf_K_32 kp_K 0 (wK G a (uK_signsUsed (uK_signs S (upd (sK_signs S) (Int32.toNatClampNeg (sK_signsUsed S)) x1)) ((sK_signsUsed S) + 1))) 39 d_K_addSign_36 rfl rfl rfl (znr_i _) (zft_i _) (Nat.le_of_ble_eq_true rfl) (wK_put_signsUsed G a (uK_signs S (upd (sK_signs S) (Int32.toNatClampNeg (sK_signsUsed S)) x1)) ((sK_signsUsed S) + 1)) ?_
      exact z_vret C hlk hr d_K_addSign_39 (by rw [show F_K_addSign S x1 = (uK_signsUsed (uK_signs S (upd (sK_signs S) (Int32.toNatClampNeg (sK_signsUsed S)) x1)) ((sK_signsUsed S) + 1)) from by rw [F_K_addSign, if_neg c_4, if_neg c_16]] at hq; exact hq)

def F_K_startTitle (S : SK) (x1 : Int32) : SK :=
  if (F_K_has S x1) = 0 then
    S
  else
    (uK_titleStarts S (upd (sK_titleStarts S) (Int32.toNatClampNeg x1) (sK_signsUsed S)))
set_option maxRecDepth 100000 in
set_option maxHeartbeats 4000000 in
theorem c_K_startTitle (G : zG) (l : Launch) (a : Nat → Nat) (S : SK) (x1 : Int32)  : zM G l y_K_startTitle b_K_startTitle 2 (none) (zR 1 21) [.ref (a 0), .int x1] (wK G a S) (fun r1 w1 => r1 = none ∧ w1 = wK G a (F_K_startTitle S x1)) := by
  generalize hPost : (fun (r1 : Option Value) (w1 : va_W) => r1 = none ∧ w1 = wK G a (F_K_startTitle S x1)) = Post
  have hq : Post (none) (wK G a (F_K_startTitle S x1)) := by rw [← hPost]; exact ⟨rfl, rfl⟩
  clear hPost
  refine zM_of (by decide) (Nat.le_of_ble_eq_true rfl) ?_
  intro p e s m args below meth c C hlk hr hin
  refine z_aload_n C 1 d_K_startTitle_0 rfl rfl ?_
  refine z_iload_n C 2 d_K_startTitle_1 rfl rfl ?_
  refine z_goA C (z_V C kc_K_35 (c_K_has G l a S x1) (st := []) 0 0 rfl rfl rfl rfl (Nat.le_of_ble_eq_true rfl) ⟨⟨Nat.le_of_ble_eq_true rfl, Nat.le_of_ble_eq_true rfl⟩, Nat.le_of_ble_eq_true rfl, Nat.le_of_ble_eq_true rfl⟩ d_K_startTitle_2) [.int (F_K_has S x1)] 5 rfl rfl ?_
  refine z_if_eq C 18 8 d_K_startTitle_5 (by decide) rfl (fun c_5 => ?_) (fun c_5 => ?_)
  · exact z_vret C hlk hr d_K_startTitle_18 (by rw [show F_K_startTitle S x1 = S from by rw [F_K_startTitle, if_pos c_5]] at hq; exact hq)
  · refine z_aload_n C 9 d_K_startTitle_8 rfl rfl ?_
    refine z_get C kf_K_18 0 (v := .ref (a 3)) 12 d_K_startTitle_9 rfl rfl rfl ?_
    refine z_iload_n C 13 d_K_startTitle_12 rfl rfl ?_
    refine z_aload_n C 14 d_K_startTitle_13 rfl rfl ?_
    refine z_get C kf_K_32 0 (v := .int (sK_signsUsed S)) 17 d_K_startTitle_14 rfl rfl rfl ?_
    refine z_iast C 3 0 (f := (sK_titleStarts S)) (wK G a (uK_titleStarts S (upd (sK_titleStarts S) (Int32.toNatClampNeg x1) (sK_signsUsed S)))) 18 d_K_startTitle_17 rfl rfl rfl (kx_has1 c_5) (wK_set_titleStarts G a S (upd (sK_titleStarts S) (Int32.toNatClampNeg x1) (sK_signsUsed S))) ?_
    exact z_vret C hlk hr d_K_startTitle_18 (by rw [show F_K_startTitle S x1 = (uK_titleStarts S (upd (sK_titleStarts S) (Int32.toNatClampNeg x1) (sK_signsUsed S))) from by rw [F_K_startTitle, if_neg c_5]] at hq; exact hq)

def F_K_timeBefore (S : SK) (x1 : Int32) : Int32 :=
  if x1 ≤ 0 then
    0
  else
    (F_K_number S (x1 - 1) 2)
set_option maxRecDepth 100000 in
set_option maxHeartbeats 4000000 in
theorem c_K_timeBefore (G : zG) (l : Launch) (a : Nat → Nat) (S : SK) (x1 : Int32)  : zM G l y_K_timeBefore b_K_timeBefore 2 (some .int) (zR 2 43) [.ref (a 0), .int x1] (wK G a S) (fun r1 w1 => r1 = some (.int (F_K_timeBefore S x1)) ∧ w1 = wK G a S) := by
  generalize hPost : (fun (r1 : Option Value) (w1 : va_W) => r1 = some (.int (F_K_timeBefore S x1)) ∧ w1 = wK G a S) = Post
  have hq : Post (some (.int (F_K_timeBefore S x1))) (wK G a S) := by rw [← hPost]; exact ⟨rfl, rfl⟩
  clear hPost
  refine zM_of (by decide) (Nat.le_of_ble_eq_true rfl) ?_
  intro p e s m args below meth c C hlk hr hin
  refine z_iload_n C 1 d_K_timeBefore_0 rfl rfl ?_
  refine z_if_le C 15 4 d_K_timeBefore_1 (by decide) rfl (fun c_1 => ?_) (fun c_1 => ?_)
  · refine z_iconst C 0 16 d_K_timeBefore_15 rfl (by decide) ?_
    exact z_iret C hlk hr d_K_timeBefore_16 (by rw [show F_K_timeBefore S x1 = 0 from by rw [F_K_timeBefore, if_pos c_1]] at hq; exact hq)
  · refine z_aload_n C 5 d_K_timeBefore_4 rfl rfl ?_
    refine z_iload_n C 6 d_K_timeBefore_5 rfl rfl ?_
    refine z_iconst C 1 7 d_K_timeBefore_6 rfl (by decide) ?_
    refine z_isub C 8 d_K_timeBefore_7 rfl ?_
    refine z_iconst C 2 9 d_K_timeBefore_8 rfl (by decide) ?_
    refine z_goA C (z_V C kc_K_83 (c_K_number G l a S (x1 - 1) 2) (st := []) 0 0 rfl rfl rfl rfl (Nat.le_of_ble_eq_true rfl) ⟨⟨Nat.le_of_ble_eq_true rfl, Nat.le_of_ble_eq_true rfl⟩, Nat.le_of_ble_eq_true rfl, Nat.le_of_ble_eq_true rfl⟩ d_K_timeBefore_9) [.int (F_K_number S (x1 - 1) 2)] 12 rfl rfl ?_
    refine z_goto C 16 d_K_timeBefore_12 (by decide) ?_
    exact z_iret C hlk hr d_K_timeBefore_16 (by rw [show F_K_timeBefore S x1 = (F_K_number S (x1 - 1) 2) from by rw [F_K_timeBefore, if_neg c_1]] at hq; exact hq)

def F_K_lastDay (S : SK) (x1 : Int32) : Int32 :=
  ((F_K_number S x1 0) + (((F_K_number S x1 2) - 1) * (F_K_number S x1 1)))
set_option maxRecDepth 100000 in
set_option maxHeartbeats 4000000 in
theorem c_K_lastDay (G : zG) (l : Launch) (a : Nat → Nat) (S : SK) (x1 : Int32)  : zM G l y_K_lastDay b_K_lastDay 2 (some .int) (zR 2 43) [.ref (a 0), .int x1] (wK G a S) (fun r1 w1 => r1 = some (.int (F_K_lastDay S x1)) ∧ w1 = wK G a S) := by
  generalize hPost : (fun (r1 : Option Value) (w1 : va_W) => r1 = some (.int (F_K_lastDay S x1)) ∧ w1 = wK G a S) = Post
  have hq : Post (some (.int (F_K_lastDay S x1))) (wK G a S) := by rw [← hPost]; exact ⟨rfl, rfl⟩
  clear hPost
  refine zM_of (by decide) (Nat.le_of_ble_eq_true rfl) ?_
  intro p e s m args below meth c C hlk hr hin
  refine z_aload_n C 1 d_K_lastDay_0 rfl rfl ?_
  refine z_iload_n C 2 d_K_lastDay_1 rfl rfl ?_
  refine z_iconst C 0 3 d_K_lastDay_2 rfl (by decide) ?_
  refine z_goA C (z_V C kc_K_83 (c_K_number G l a S x1 0) (st := []) 0 0 rfl rfl rfl rfl (Nat.le_of_ble_eq_true rfl) ⟨⟨Nat.le_of_ble_eq_true rfl, Nat.le_of_ble_eq_true rfl⟩, Nat.le_of_ble_eq_true rfl, Nat.le_of_ble_eq_true rfl⟩ d_K_lastDay_3) [.int (F_K_number S x1 0)] 6 rfl rfl ?_
  refine z_aload_n C 7 d_K_lastDay_6 rfl rfl ?_
  refine z_iload_n C 8 d_K_lastDay_7 rfl rfl ?_
  refine z_iconst C 2 9 d_K_lastDay_8 rfl (by decide) ?_
  refine z_goA C (z_V C kc_K_83 (c_K_number G l a S x1 2) (st := [.int (F_K_number S x1 0)]) 0 0 rfl rfl rfl rfl (Nat.le_of_ble_eq_true rfl) ⟨⟨Nat.le_of_ble_eq_true rfl, Nat.le_of_ble_eq_true rfl⟩, Nat.le_of_ble_eq_true rfl, Nat.le_of_ble_eq_true rfl⟩ d_K_lastDay_9) [.int (F_K_number S x1 2), .int (F_K_number S x1 0)] 12 rfl rfl ?_
  refine z_iconst C 1 13 d_K_lastDay_12 rfl (by decide) ?_
  refine z_isub C 14 d_K_lastDay_13 rfl ?_
  refine z_aload_n C 15 d_K_lastDay_14 rfl rfl ?_
  refine z_iload_n C 16 d_K_lastDay_15 rfl rfl ?_
  refine z_iconst C 1 17 d_K_lastDay_16 rfl (by decide) ?_
  refine z_goA C (z_V C kc_K_83 (c_K_number G l a S x1 1) (st := [.int ((F_K_number S x1 2) - 1), .int (F_K_number S x1 0)]) 0 0 rfl rfl rfl rfl (Nat.le_of_ble_eq_true rfl) ⟨⟨Nat.le_of_ble_eq_true rfl, Nat.le_of_ble_eq_true rfl⟩, Nat.le_of_ble_eq_true rfl, Nat.le_of_ble_eq_true rfl⟩ d_K_lastDay_17) [.int (F_K_number S x1 1), .int ((F_K_number S x1 2) - 1), .int (F_K_number S x1 0)] 20 rfl rfl ?_
  refine z_imul C 21 d_K_lastDay_20 rfl ?_
  refine z_iadd C 22 d_K_lastDay_21 rfl ?_
  exact z_iret C hlk hr d_K_lastDay_22 (by rw [show F_K_lastDay S x1 = ((F_K_number S x1 0) + (((F_K_number S x1 2) - 1) * (F_K_number S x1 1))) from by rw [F_K_lastDay]] at hq; exact hq)

def F_K_isPattern (S : SK) (x1 : Int32) : Int32 :=
  if (sK_kind S) = 2 then
    if (F_K_has S x1) = 0 then
      0
    else
      1
  else
    0
set_option maxRecDepth 100000 in
set_option maxHeartbeats 4000000 in
theorem c_K_isPattern (G : zG) (l : Launch) (a : Nat → Nat) (S : SK) (x1 : Int32)  : zM G l y_K_isPattern b_K_isPattern 2 (some .boolean) (zR 1 21) [.ref (a 0), .int x1] (wK G a S) (fun r1 w1 => r1 = some (.int (F_K_isPattern S x1)) ∧ w1 = wK G a S) := by
  generalize hPost : (fun (r1 : Option Value) (w1 : va_W) => r1 = some (.int (F_K_isPattern S x1)) ∧ w1 = wK G a S) = Post
  have hq : Post (some (.int (F_K_isPattern S x1))) (wK G a S) := by rw [← hPost]; exact ⟨rfl, rfl⟩
  clear hPost
  refine zM_of (by decide) (Nat.le_of_ble_eq_true rfl) ?_
  intro p e s m args below meth c C hlk hr hin
  refine z_aload_n C 1 d_K_isPattern_0 rfl rfl ?_
  refine z_get C kf_K_25 0 (v := .int (sK_kind S)) 4 d_K_isPattern_1 rfl rfl rfl ?_
  refine z_iconst C 2 5 d_K_isPattern_4 rfl (by decide) ?_
  refine z_icmp_ne C 20 8 d_K_isPattern_5 (by decide) rfl (fun c_5 => ?_) (fun c_5 => ?_)
  · refine z_iconst C 0 21 d_K_isPattern_20 rfl (by decide) ?_
    exact z_zret C hlk rfl hr d_K_isPattern_21 (by rw [show F_K_isPattern S x1 = 0 from by rw [F_K_isPattern, if_neg c_5]] at hq; exact hq)
  · refine z_aload_n C 9 d_K_isPattern_8 rfl rfl ?_
    refine z_iload_n C 10 d_K_isPattern_9 rfl rfl ?_
    refine z_goA C (z_V C kc_K_35 (c_K_has G l a S x1) (st := []) 0 0 rfl rfl rfl rfl (Nat.le_of_ble_eq_true rfl) ⟨⟨Nat.le_of_ble_eq_true rfl, Nat.le_of_ble_eq_true rfl⟩, Nat.le_of_ble_eq_true rfl, Nat.le_of_ble_eq_true rfl⟩ d_K_isPattern_10) [.int (F_K_has S x1)] 13 rfl rfl ?_
    refine z_if_eq C 20 16 d_K_isPattern_13 (by decide) rfl (fun c_13 => ?_) (fun c_13 => ?_)
    · refine z_iconst C 0 21 d_K_isPattern_20 rfl (by decide) ?_
      exact z_zret C hlk rfl hr d_K_isPattern_21 (by rw [show F_K_isPattern S x1 = 0 from by rw [F_K_isPattern, if_pos c_5, if_pos c_13]] at hq; exact hq)
    · refine z_iconst C 1 17 d_K_isPattern_16 rfl (by decide) ?_
      refine z_goto C 21 d_K_isPattern_17 (by decide) ?_
      exact z_zret C hlk rfl hr d_K_isPattern_21 (by rw [show F_K_isPattern S x1 = 1 from by rw [F_K_isPattern, if_pos c_5, if_neg c_13]] at hq; exact hq)
end
section
def L_K_repeatTitle_18 : Nat → SK → Int32 → Int32 → Int32 → SK
  | 0, S, v1, v2, v3 => S
  | n + 1, S, v1, v2, v3 =>
    if v2 ≤ v3 then
      S
    else
      (L_K_repeatTitle_18 n (F_K_addSign S (F_K_sign S (((sK_titleStarts S) (Int32.toNatClampNeg v1)) + v3))) v1 v2 (v3 + 1))
set_option maxRecDepth 100000 in
set_option maxHeartbeats 4000000 in
theorem l_K_repeatTitle_18 (G : zG) (l : Launch) (a : Nat → Nat) {p : Program} {e : Env} {s : State} {m : MethodId} {args : Array Value} {below : List Frame} {meth : Method} {c : Code} {w0 : va_W} {Post : Option Value → va_W → Prop} (C : zC p s m args meth c b_K_repeatTitle 4 N_K G (va_A w0 s.heap.size)) (hlk : meth.locks = false) (hr : meth.sig.returnType = none) :
    ∀ (n : Nat) (S : SK) (v1 : Int32) (v2 : Int32) (v3 : Int32), (Int32.toInt v2 - Int32.toInt v3).toNat < n → (vp_in v1 21) → Post (none) (wK G a (L_K_repeatTitle_18 n S v1 v2 v3)) → zV p l e (zR 2 43) s m args below meth c 4 G (va_A w0 s.heap.size) (MQ below (zQ G w0 s.heap.size Post) args s 0 0 (va_A w0 s.heap.size)) 0 0 (wK G a S) 18 [(0, .ref (a 0)), (1, .int v1), (2, .int v2), (3, .int v3)] [] := by
  intro n
  induction n with
  | zero => intro S v1 v2 v3 h; exact absurd h (Nat.not_lt_zero _)
  | succ n ih =>
    intro S v1 v2 v3 hmu hpre hq
    refine z_iload_n C 19 d_K_repeatTitle_18 rfl rfl ?_
    refine z_iload_n C 20 d_K_repeatTitle_19 rfl rfl ?_
    refine z_icmp_ge C 45 23 d_K_repeatTitle_20 (by decide) rfl (fun c_20 => ?_) (fun c_20 => ?_)
    · exact z_vret C hlk hr d_K_repeatTitle_45 (by rw [show L_K_repeatTitle_18 (n + 1) S v1 v2 v3 = S from by rw [L_K_repeatTitle_18, if_pos c_20]] at hq; exact hq)
    · refine z_aload_n C 24 d_K_repeatTitle_23 rfl rfl ?_
      refine z_aload_n C 25 d_K_repeatTitle_24 rfl rfl ?_
      refine z_aload_n C 26 d_K_repeatTitle_25 rfl rfl ?_
      refine z_get C kf_K_18 0 (v := .ref (a 3)) 29 d_K_repeatTitle_26 rfl rfl rfl ?_
      refine z_iload_n C 30 d_K_repeatTitle_29 rfl rfl ?_
      refine z_iald C 3 0 (f := (sK_titleStarts S)) 31 d_K_repeatTitle_30 rfl rfl rfl hpre ?_
      refine z_iload_n C 32 d_K_repeatTitle_31 rfl rfl ?_
      refine z_iadd C 33 d_K_repeatTitle_32 rfl ?_
      refine z_goA C (z_V C kc_K_90 (c_K_sign G l a S (((sK_titleStarts S) (Int32.toNatClampNeg v1)) + v3)) (st := [.ref (a 0)]) 0 0 rfl rfl rfl rfl (Nat.le_of_ble_eq_true rfl) ⟨⟨Nat.le_of_ble_eq_true rfl, Nat.le_of_ble_eq_true rfl⟩, Nat.le_of_ble_eq_true rfl, Nat.le_of_ble_eq_true rfl⟩ d_K_repeatTitle_33) [.int (F_K_sign S (((sK_titleStarts S) (Int32.toNatClampNeg v1)) + v3)), .ref (a 0)] 36 rfl rfl ?_
      refine z_goA C (z_V C kc_K_80 (c_K_addSign G l a S (F_K_sign S (((sK_titleStarts S) (Int32.toNatClampNeg v1)) + v3))) (st := []) 0 0 rfl rfl rfl rfl (Nat.le_of_ble_eq_true rfl) ⟨⟨Nat.le_of_ble_eq_true rfl, Nat.le_of_ble_eq_true rfl⟩, Nat.le_of_ble_eq_true rfl, Nat.le_of_ble_eq_true rfl⟩ d_K_repeatTitle_36) [] 39 rfl rfl ?_
      refine z_iinc C (v3 + 1) [(3, .int (v3 + 1)), (0, .ref (a 0)), (1, .int v1), (2, .int v2)] 42 d_K_repeatTitle_39 rfl (by decide) rfl rfl rfl ?_
      refine z_goto C 18 d_K_repeatTitle_42 (by decide) ?_
      refine z_lvs [1, 2, 3, 0] [(0, .ref (a 0)), (1, .int v1), (2, .int v2), (3, .int (v3 + 1))] rfl ?_
      exact ih (F_K_addSign S (F_K_sign S (((sK_titleStarts S) (Int32.toNatClampNeg v1)) + v3))) v1 v2 (v3 + 1) (zdec c_20 hmu) hpre (by rw [show L_K_repeatTitle_18 (n + 1) S v1 v2 v3 = (L_K_repeatTitle_18 n (F_K_addSign S (F_K_sign S (((sK_titleStarts S) (Int32.toNatClampNeg v1)) + v3))) v1 v2 (v3 + 1)) from by rw [L_K_repeatTitle_18, if_neg c_20]] at hq; exact hq)
def F_K_repeatTitle (S : SK) (x1 : Int32) : SK :=
  if (F_K_has S x1) = 0 then
    S
  else
    (L_K_repeatTitle_18 ((Int32.toInt (F_K_number S x1 0) - Int32.toInt 0).toNat + 1) S x1 (F_K_number S x1 0) 0)
set_option maxRecDepth 100000 in
set_option maxHeartbeats 4000000 in
theorem c_K_repeatTitle (G : zG) (l : Launch) (a : Nat → Nat) (S : SK) (x1 : Int32)  : zM G l y_K_repeatTitle b_K_repeatTitle 4 (none) (zR 2 43) [.ref (a 0), .int x1] (wK G a S) (fun r1 w1 => r1 = none ∧ w1 = wK G a (F_K_repeatTitle S x1)) := by
  generalize hPost : (fun (r1 : Option Value) (w1 : va_W) => r1 = none ∧ w1 = wK G a (F_K_repeatTitle S x1)) = Post
  have hq : Post (none) (wK G a (F_K_repeatTitle S x1)) := by rw [← hPost]; exact ⟨rfl, rfl⟩
  clear hPost
  refine zM_of (by decide) (Nat.le_of_ble_eq_true rfl) ?_
  intro p e s m args below meth c C hlk hr hin
  refine z_aload_n C 1 d_K_repeatTitle_0 rfl rfl ?_
  refine z_iload_n C 2 d_K_repeatTitle_1 rfl rfl ?_
  refine z_goA C (z_V C kc_K_35 (c_K_has G l a S x1) (st := []) 0 0 rfl rfl rfl rfl (Nat.le_of_ble_eq_true rfl) ⟨⟨Nat.le_of_ble_eq_true rfl, Nat.le_of_ble_eq_true rfl⟩, Nat.le_of_ble_eq_true rfl, Nat.le_of_ble_eq_true rfl⟩ d_K_repeatTitle_2) [.int (F_K_has S x1)] 5 rfl rfl ?_
  refine z_if_ne C 9 8 d_K_repeatTitle_5 (by decide) rfl (fun c_5 => ?_) (fun c_5 => ?_)
  · refine z_aload_n C 10 d_K_repeatTitle_9 rfl rfl ?_
    refine z_iload_n C 11 d_K_repeatTitle_10 rfl rfl ?_
    refine z_iconst C 0 12 d_K_repeatTitle_11 rfl (by decide) ?_
    refine z_goA C (z_V C kc_K_83 (c_K_number G l a S x1 0) (st := []) 0 0 rfl rfl rfl rfl (Nat.le_of_ble_eq_true rfl) ⟨⟨Nat.le_of_ble_eq_true rfl, Nat.le_of_ble_eq_true rfl⟩, Nat.le_of_ble_eq_true rfl, Nat.le_of_ble_eq_true rfl⟩ d_K_repeatTitle_12) [.int (F_K_number S x1 0)] 15 rfl rfl ?_
    refine z_istore_n C [(2, .int (F_K_number S x1 0)), (0, .ref (a 0)), (1, .int x1)] 16 d_K_repeatTitle_15 rfl (by decide) rfl ?_
    refine z_iconst C 0 17 d_K_repeatTitle_16 rfl (by decide) ?_
    refine z_istore_n C [(3, .int 0), (2, .int (F_K_number S x1 0)), (0, .ref (a 0)), (1, .int x1)] 18 d_K_repeatTitle_17 rfl (by decide) rfl ?_
    refine z_lvs [2, 3, 1, 0] [(0, .ref (a 0)), (1, .int x1), (2, .int (F_K_number S x1 0)), (3, .int 0)] rfl ?_
    exact l_K_repeatTitle_18 G l a C hlk hr _ S x1 (F_K_number S x1 0) 0 (Nat.lt_succ_self _) (kx_has1 c_5) (by rw [show F_K_repeatTitle S x1 = (L_K_repeatTitle_18 ((Int32.toInt (F_K_number S x1 0) - Int32.toInt 0).toNat + 1) S x1 (F_K_number S x1 0) 0) from by rw [F_K_repeatTitle, if_neg c_5]] at hq; exact hq)
  · exact z_vret C hlk hr d_K_repeatTitle_8 (by rw [show F_K_repeatTitle S x1 = S from by rw [F_K_repeatTitle, if_pos c_5]] at hq; exact hq)

def L_K_fillRecord_76 : Nat → SK → Int32 → Int32 → SK
  | 0, S, v3, v5 => S
  | n + 1, S, v3, v5 =>
    if v3 ≤ v5 then
      (F_K_addSign S 10)
    else
      (L_K_fillRecord_76 n (F_K_addSign (F_K_next S 26).2 (97 + (F_K_next S 26).1)) v3 (v5 + 1))
set_option maxRecDepth 100000 in
set_option maxHeartbeats 4000000 in
theorem l_K_fillRecord_76 (G : zG) (l : Launch) (a : Nat → Nat) {p : Program} {e : Env} {s : State} {m : MethodId} {args : Array Value} {below : List Frame} {meth : Method} {c : Code} {w0 : va_W} {Post : Option Value → va_W → Prop} (C : zC p s m args meth c b_K_fillRecord 6 N_K G (va_A w0 s.heap.size)) (hlk : meth.locks = false) (hr : meth.sig.returnType = none) :
    ∀ (n : Nat) (S : SK) (v3 : Int32) (v5 : Int32), (Int32.toInt v3 - Int32.toInt v5).toNat < n → Post (none) (wK G a (L_K_fillRecord_76 n S v3 v5)) → zV p l e (zR 3 66) s m args below meth c 6 G (va_A w0 s.heap.size) (MQ below (zQ G w0 s.heap.size Post) args s 0 0 (va_A w0 s.heap.size)) 0 0 (wK G a S) 76 [(0, .ref (a 0)), (3, .int v3), (5, .int v5)] [] := by
  intro n
  induction n with
  | zero => intro S v3 v5 h; exact absurd h (Nat.not_lt_zero _)
  | succ n ih =>
    intro S v3 v5 hmu hq
    refine z_iload C 78 d_K_fillRecord_76 rfl rfl ?_
    refine z_iload_n C 79 d_K_fillRecord_78 rfl rfl ?_
    refine z_icmp_ge C 101 82 d_K_fillRecord_79 (by decide) rfl (fun c_79 => ?_) (fun c_79 => ?_)
    · refine z_goto C 127 d_K_fillRecord_101 (by decide) ?_
      refine z_aload_n C 128 d_K_fillRecord_127 rfl rfl ?_
      refine z_bipush C 10 130 d_K_fillRecord_128 rfl (by decide) ?_
      refine z_goA C (z_V C kc_K_80 (c_K_addSign G l a S 10) (st := []) 0 0 rfl rfl rfl rfl (Nat.le_of_ble_eq_true rfl) ⟨⟨Nat.le_of_ble_eq_true rfl, Nat.le_of_ble_eq_true rfl⟩, Nat.le_of_ble_eq_true rfl, Nat.le_of_ble_eq_true rfl⟩ d_K_fillRecord_130) [] 133 rfl rfl ?_
      exact z_vret C hlk hr d_K_fillRecord_133 (by rw [show L_K_fillRecord_76 (n + 1) S v3 v5 = (F_K_addSign S 10) from by rw [L_K_fillRecord_76, if_pos c_79]] at hq; exact hq)
    · refine z_aload_n C 83 d_K_fillRecord_82 rfl rfl ?_
      refine z_bipush C 97 85 d_K_fillRecord_83 rfl (by decide) ?_
      refine z_aload_n C 86 d_K_fillRecord_85 rfl rfl ?_
      refine z_bipush C 26 88 d_K_fillRecord_86 rfl (by decide) ?_
      refine z_goA C (z_V C kc_K_72 (c_K_next G l a S 26) (st := [.int 97, .ref (a 0)]) 0 0 rfl rfl rfl rfl (Nat.le_of_ble_eq_true rfl) ⟨⟨Nat.le_of_ble_eq_true rfl, Nat.le_of_ble_eq_true rfl⟩, Nat.le_of_ble_eq_true rfl, Nat.le_of_ble_eq_true rfl⟩ d_K_fillRecord_88) [.int (F_K_next S 26).1, .int 97, .ref (a 0)] 91 rfl rfl ?_
      refine z_iadd C 92 d_K_fillRecord_91 rfl ?_
      refine z_goA C (z_V C kc_K_80 (c_K_addSign G l a (F_K_next S 26).2 (97 + (F_K_next S 26).1)) (st := []) 0 0 rfl rfl rfl rfl (Nat.le_of_ble_eq_true rfl) ⟨⟨Nat.le_of_ble_eq_true rfl, Nat.le_of_ble_eq_true rfl⟩, Nat.le_of_ble_eq_true rfl, Nat.le_of_ble_eq_true rfl⟩ d_K_fillRecord_92) [] 95 rfl rfl ?_
      refine z_iinc C (v5 + 1) [(5, .int (v5 + 1)), (0, .ref (a 0)), (3, .int v3)] 98 d_K_fillRecord_95 rfl (by decide) rfl rfl rfl ?_
      refine z_goto C 76 d_K_fillRecord_98 (by decide) ?_
      refine z_lvs [1, 2, 0] [(0, .ref (a 0)), (3, .int v3), (5, .int (v5 + 1))] rfl ?_
      exact ih (F_K_addSign (F_K_next S 26).2 (97 + (F_K_next S 26).1)) v3 (v5 + 1) (zdec c_79 hmu) (by rw [show L_K_fillRecord_76 (n + 1) S v3 v5 = (L_K_fillRecord_76 n (F_K_addSign (F_K_next S 26).2 (97 + (F_K_next S 26).1)) v3 (v5 + 1)) from by rw [L_K_fillRecord_76, if_neg c_79]] at hq; exact hq)
def F_K_fillRecord (S : SK) (x1 : Int32) : SK :=
  if x1 ≤ 0 then
    if (F_K_next (F_K_next (F_K_startTitle S x1) 7).2 8).1 = 0 then
      (L_K_fillRecord_76 ((Int32.toInt (F_K_next (F_K_startTitle S x1) 7).1 - Int32.toInt 0).toNat + 1) (F_K_put (F_K_next (F_K_next (F_K_startTitle S x1) 7).2 8).2 x1 (F_K_next (F_K_startTitle S x1) 7).1 0 (-1)) (F_K_next (F_K_startTitle S x1) 7).1 0)
    else
      (L_K_fillRecord_76 ((Int32.toInt (F_K_next (F_K_startTitle S x1) 7).1 - Int32.toInt 0).toNat + 1) (F_K_put (F_K_next (F_K_next (F_K_next (F_K_startTitle S x1) 7).2 8).2 120).2 x1 (F_K_next (F_K_startTitle S x1) 7).1 (1900 + (F_K_next (F_K_next (F_K_next (F_K_startTitle S x1) 7).2 8).2 120).1) (-1)) (F_K_next (F_K_startTitle S x1) 7).1 0)
  else
    if (F_K_next (F_K_startTitle S x1) 5).1 = 0 then
      if (F_K_next (F_K_next (F_K_startTitle S x1) 5).2 x1).1 = (-1) then
        if (F_K_next (F_K_next (F_K_next (F_K_next (F_K_startTitle S x1) 5).2 x1).2 7).2 8).1 = 0 then
          (L_K_fillRecord_76 ((Int32.toInt (F_K_next (F_K_next (F_K_next (F_K_startTitle S x1) 5).2 x1).2 7).1 - Int32.toInt 0).toNat + 1) (F_K_put (F_K_next (F_K_next (F_K_next (F_K_next (F_K_startTitle S x1) 5).2 x1).2 7).2 8).2 x1 (F_K_next (F_K_next (F_K_next (F_K_startTitle S x1) 5).2 x1).2 7).1 0 (-1)) (F_K_next (F_K_next (F_K_next (F_K_startTitle S x1) 5).2 x1).2 7).1 0)
        else
          (L_K_fillRecord_76 ((Int32.toInt (F_K_next (F_K_next (F_K_next (F_K_startTitle S x1) 5).2 x1).2 7).1 - Int32.toInt 0).toNat + 1) (F_K_put (F_K_next (F_K_next (F_K_next (F_K_next (F_K_next (F_K_startTitle S x1) 5).2 x1).2 7).2 8).2 120).2 x1 (F_K_next (F_K_next (F_K_next (F_K_startTitle S x1) 5).2 x1).2 7).1 (1900 + (F_K_next (F_K_next (F_K_next (F_K_next (F_K_next (F_K_startTitle S x1) 5).2 x1).2 7).2 8).2 120).1) (-1)) (F_K_next (F_K_next (F_K_next (F_K_startTitle S x1) 5).2 x1).2 7).1 0)
      else
        (F_K_addSign (F_K_repeatTitle (F_K_put (F_K_next (F_K_next (F_K_startTitle S x1) 5).2 x1).2 x1 (F_K_number (F_K_next (F_K_next (F_K_startTitle S x1) 5).2 x1).2 (F_K_next (F_K_next (F_K_startTitle S x1) 5).2 x1).1 0) (F_K_number (F_K_next (F_K_next (F_K_startTitle S x1) 5).2 x1).2 (F_K_next (F_K_next (F_K_startTitle S x1) 5).2 x1).1 1) (F_K_next (F_K_next (F_K_startTitle S x1) 5).2 x1).1) (F_K_next (F_K_next (F_K_startTitle S x1) 5).2 x1).1) 10)
    else
      if (F_K_next (F_K_next (F_K_next (F_K_startTitle S x1) 5).2 7).2 8).1 = 0 then
        (L_K_fillRecord_76 ((Int32.toInt (F_K_next (F_K_next (F_K_startTitle S x1) 5).2 7).1 - Int32.toInt 0).toNat + 1) (F_K_put (F_K_next (F_K_next (F_K_next (F_K_startTitle S x1) 5).2 7).2 8).2 x1 (F_K_next (F_K_next (F_K_startTitle S x1) 5).2 7).1 0 (-1)) (F_K_next (F_K_next (F_K_startTitle S x1) 5).2 7).1 0)
      else
        (L_K_fillRecord_76 ((Int32.toInt (F_K_next (F_K_next (F_K_startTitle S x1) 5).2 7).1 - Int32.toInt 0).toNat + 1) (F_K_put (F_K_next (F_K_next (F_K_next (F_K_next (F_K_startTitle S x1) 5).2 7).2 8).2 120).2 x1 (F_K_next (F_K_next (F_K_startTitle S x1) 5).2 7).1 (1900 + (F_K_next (F_K_next (F_K_next (F_K_next (F_K_startTitle S x1) 5).2 7).2 8).2 120).1) (-1)) (F_K_next (F_K_next (F_K_startTitle S x1) 5).2 7).1 0)
set_option maxRecDepth 100000 in
set_option maxHeartbeats 4000000 in
theorem c_K_fillRecord (G : zG) (l : Launch) (a : Nat → Nat) (S : SK) (x1 : Int32)  : zM G l y_K_fillRecord b_K_fillRecord 6 (none) (zR 3 66) [.ref (a 0), .int x1] (wK G a S) (fun r1 w1 => r1 = none ∧ w1 = wK G a (F_K_fillRecord S x1)) := by
  generalize hPost : (fun (r1 : Option Value) (w1 : va_W) => r1 = none ∧ w1 = wK G a (F_K_fillRecord S x1)) = Post
  have hq : Post (none) (wK G a (F_K_fillRecord S x1)) := by rw [← hPost]; exact ⟨rfl, rfl⟩
  clear hPost
  refine zM_of (by decide) (Nat.le_of_ble_eq_true rfl) ?_
  intro p e s m args below meth c C hlk hr hin
  refine z_aload_n C 1 d_K_fillRecord_0 rfl rfl ?_
  refine z_iload_n C 2 d_K_fillRecord_1 rfl rfl ?_
  refine z_goA C (z_V C kc_K_69 (c_K_startTitle G l a S x1) (st := []) 0 0 rfl rfl rfl rfl (Nat.le_of_ble_eq_true rfl) ⟨⟨Nat.le_of_ble_eq_true rfl, Nat.le_of_ble_eq_true rfl⟩, Nat.le_of_ble_eq_true rfl, Nat.le_of_ble_eq_true rfl⟩ d_K_fillRecord_2) [] 5 rfl rfl ?_
  refine z_iload_n C 6 d_K_fillRecord_5 rfl rfl ?_
  refine z_if_le C 25 9 d_K_fillRecord_6 (by decide) rfl (fun c_6 => ?_) (fun c_6 => ?_)
  · refine z_iconst C (-1) 26 d_K_fillRecord_25 rfl (by decide) ?_
    refine z_istore_n C [(2, .int (-1)), (0, .ref (a 0)), (1, .int x1)] 27 d_K_fillRecord_26 rfl (by decide) rfl ?_
    refine z_iload_n C 28 d_K_fillRecord_27 rfl rfl ?_
    refine z_iconst C (-1) 29 d_K_fillRecord_28 rfl (by decide) ?_
    refine z_icmp_ne C 104 32 d_K_fillRecord_29 (by decide) rfl (fun c_29 => ?_) (fun c_29 => ?_)
    · exact absurd c_29 (by decide)
    · refine z_aload_n C 33 d_K_fillRecord_32 rfl rfl ?_
      refine z_bipush C 7 35 d_K_fillRecord_33 rfl (by decide) ?_
      refine z_goA C (z_V C kc_K_72 (c_K_next G l a (F_K_startTitle S x1) 7) (st := []) 0 0 rfl rfl rfl rfl (Nat.le_of_ble_eq_true rfl) ⟨⟨Nat.le_of_ble_eq_true rfl, Nat.le_of_ble_eq_true rfl⟩, Nat.le_of_ble_eq_true rfl, Nat.le_of_ble_eq_true rfl⟩ d_K_fillRecord_35) [.int (F_K_next (F_K_startTitle S x1) 7).1] 38 rfl rfl ?_
      refine z_istore_n C [(3, .int (F_K_next (F_K_startTitle S x1) 7).1), (2, .int (-1)), (0, .ref (a 0)), (1, .int x1)] 39 d_K_fillRecord_38 rfl (by decide) rfl ?_
      refine z_aload_n C 40 d_K_fillRecord_39 rfl rfl ?_
      refine z_bipush C 8 42 d_K_fillRecord_40 rfl (by decide) ?_
      refine z_goA C (z_V C kc_K_72 (c_K_next G l a (F_K_next (F_K_startTitle S x1) 7).2 8) (st := []) 0 0 rfl rfl rfl rfl (Nat.le_of_ble_eq_true rfl) ⟨⟨Nat.le_of_ble_eq_true rfl, Nat.le_of_ble_eq_true rfl⟩, Nat.le_of_ble_eq_true rfl, Nat.le_of_ble_eq_true rfl⟩ d_K_fillRecord_42) [.int (F_K_next (F_K_next (F_K_startTitle S x1) 7).2 8).1] 45 rfl rfl ?_
      refine z_if_ne C 52 48 d_K_fillRecord_45 (by decide) rfl (fun c_45 => ?_) (fun c_45 => ?_)
      · refine z_sipush C 1900 55 d_K_fillRecord_52 rfl (by decide) ?_
        refine z_aload_n C 56 d_K_fillRecord_55 rfl rfl ?_
        refine z_bipush C 120 58 d_K_fillRecord_56 rfl (by decide) ?_
        refine z_goA C (z_V C kc_K_72 (c_K_next G l a (F_K_next (F_K_next (F_K_startTitle S x1) 7).2 8).2 120) (st := [.int 1900]) 0 0 rfl rfl rfl rfl (Nat.le_of_ble_eq_true rfl) ⟨⟨Nat.le_of_ble_eq_true rfl, Nat.le_of_ble_eq_true rfl⟩, Nat.le_of_ble_eq_true rfl, Nat.le_of_ble_eq_true rfl⟩ d_K_fillRecord_58) [.int (F_K_next (F_K_next (F_K_next (F_K_startTitle S x1) 7).2 8).2 120).1, .int 1900] 61 rfl rfl ?_
        refine z_iadd C 62 d_K_fillRecord_61 rfl ?_
        refine z_istore C [(4, .int (1900 + (F_K_next (F_K_next (F_K_next (F_K_startTitle S x1) 7).2 8).2 120).1)), (3, .int (F_K_next (F_K_startTitle S x1) 7).1), (2, .int (-1)), (0, .ref (a 0)), (1, .int x1)] 64 d_K_fillRecord_62 rfl (by decide) rfl ?_
        refine z_aload_n C 65 d_K_fillRecord_64 rfl rfl ?_
        refine z_iload_n C 66 d_K_fillRecord_65 rfl rfl ?_
        refine z_iload_n C 67 d_K_fillRecord_66 rfl rfl ?_
        refine z_iload C 69 d_K_fillRecord_67 rfl rfl ?_
        refine z_iconst C (-1) 70 d_K_fillRecord_69 rfl (by decide) ?_
        refine z_goA C (z_V C kc_K_76 (c_K_put G l a (F_K_next (F_K_next (F_K_next (F_K_startTitle S x1) 7).2 8).2 120).2 x1 (F_K_next (F_K_startTitle S x1) 7).1 (1900 + (F_K_next (F_K_next (F_K_next (F_K_startTitle S x1) 7).2 8).2 120).1) (-1)) (st := []) 0 0 rfl rfl rfl rfl (Nat.le_of_ble_eq_true rfl) ⟨⟨Nat.le_of_ble_eq_true rfl, Nat.le_of_ble_eq_true rfl⟩, Nat.le_of_ble_eq_true rfl, Nat.le_of_ble_eq_true rfl⟩ d_K_fillRecord_70) [] 73 rfl rfl ?_
        refine z_iconst C 0 74 d_K_fillRecord_73 rfl (by decide) ?_
        refine z_istore C [(5, .int 0), (4, .int (1900 + (F_K_next (F_K_next (F_K_next (F_K_startTitle S x1) 7).2 8).2 120).1)), (3, .int (F_K_next (F_K_startTitle S x1) 7).1), (2, .int (-1)), (0, .ref (a 0)), (1, .int x1)] 76 d_K_fillRecord_74 rfl (by decide) rfl ?_
        refine z_lvs [4, 2, 0] [(0, .ref (a 0)), (3, .int (F_K_next (F_K_startTitle S x1) 7).1), (5, .int 0)] rfl ?_
        exact l_K_fillRecord_76 G l a C hlk hr _ (F_K_put (F_K_next (F_K_next (F_K_next (F_K_startTitle S x1) 7).2 8).2 120).2 x1 (F_K_next (F_K_startTitle S x1) 7).1 (1900 + (F_K_next (F_K_next (F_K_next (F_K_startTitle S x1) 7).2 8).2 120).1) (-1)) (F_K_next (F_K_startTitle S x1) 7).1 0 (Nat.lt_succ_self _) (by rw [show F_K_fillRecord S x1 = (L_K_fillRecord_76 ((Int32.toInt (F_K_next (F_K_startTitle S x1) 7).1 - Int32.toInt 0).toNat + 1) (F_K_put (F_K_next (F_K_next (F_K_next (F_K_startTitle S x1) 7).2 8).2 120).2 x1 (F_K_next (F_K_startTitle S x1) 7).1 (1900 + (F_K_next (F_K_next (F_K_next (F_K_startTitle S x1) 7).2 8).2 120).1) (-1)) (F_K_next (F_K_startTitle S x1) 7).1 0) from by rw [F_K_fillRecord, if_pos c_6, if_neg c_45]] at hq; exact hq)
      · refine z_iconst C 0 49 d_K_fillRecord_48 rfl (by decide) ?_
        refine z_goto C 62 d_K_fillRecord_49 (by decide) ?_
        refine z_istore C [(4, .int 0), (3, .int (F_K_next (F_K_startTitle S x1) 7).1), (2, .int (-1)), (0, .ref (a 0)), (1, .int x1)] 64 d_K_fillRecord_62 rfl (by decide) rfl ?_
        refine z_aload_n C 65 d_K_fillRecord_64 rfl rfl ?_
        refine z_iload_n C 66 d_K_fillRecord_65 rfl rfl ?_
        refine z_iload_n C 67 d_K_fillRecord_66 rfl rfl ?_
        refine z_iload C 69 d_K_fillRecord_67 rfl rfl ?_
        refine z_iconst C (-1) 70 d_K_fillRecord_69 rfl (by decide) ?_
        refine z_goA C (z_V C kc_K_76 (c_K_put G l a (F_K_next (F_K_next (F_K_startTitle S x1) 7).2 8).2 x1 (F_K_next (F_K_startTitle S x1) 7).1 0 (-1)) (st := []) 0 0 rfl rfl rfl rfl (Nat.le_of_ble_eq_true rfl) ⟨⟨Nat.le_of_ble_eq_true rfl, Nat.le_of_ble_eq_true rfl⟩, Nat.le_of_ble_eq_true rfl, Nat.le_of_ble_eq_true rfl⟩ d_K_fillRecord_70) [] 73 rfl rfl ?_
        refine z_iconst C 0 74 d_K_fillRecord_73 rfl (by decide) ?_
        refine z_istore C [(5, .int 0), (4, .int 0), (3, .int (F_K_next (F_K_startTitle S x1) 7).1), (2, .int (-1)), (0, .ref (a 0)), (1, .int x1)] 76 d_K_fillRecord_74 rfl (by decide) rfl ?_
        refine z_lvs [4, 2, 0] [(0, .ref (a 0)), (3, .int (F_K_next (F_K_startTitle S x1) 7).1), (5, .int 0)] rfl ?_
        exact l_K_fillRecord_76 G l a C hlk hr _ (F_K_put (F_K_next (F_K_next (F_K_startTitle S x1) 7).2 8).2 x1 (F_K_next (F_K_startTitle S x1) 7).1 0 (-1)) (F_K_next (F_K_startTitle S x1) 7).1 0 (Nat.lt_succ_self _) (by rw [show F_K_fillRecord S x1 = (L_K_fillRecord_76 ((Int32.toInt (F_K_next (F_K_startTitle S x1) 7).1 - Int32.toInt 0).toNat + 1) (F_K_put (F_K_next (F_K_next (F_K_startTitle S x1) 7).2 8).2 x1 (F_K_next (F_K_startTitle S x1) 7).1 0 (-1)) (F_K_next (F_K_startTitle S x1) 7).1 0) from by rw [F_K_fillRecord, if_pos c_6, if_pos c_45]] at hq; exact hq)
  · refine z_aload_n C 10 d_K_fillRecord_9 rfl rfl ?_
    refine z_iconst C 5 11 d_K_fillRecord_10 rfl (by decide) ?_
    refine z_goA C (z_V C kc_K_72 (c_K_next G l a (F_K_startTitle S x1) 5) (st := []) 0 0 rfl rfl rfl rfl (Nat.le_of_ble_eq_true rfl) ⟨⟨Nat.le_of_ble_eq_true rfl, Nat.le_of_ble_eq_true rfl⟩, Nat.le_of_ble_eq_true rfl, Nat.le_of_ble_eq_true rfl⟩ d_K_fillRecord_11) [.int (F_K_next (F_K_startTitle S x1) 5).1] 14 rfl rfl ?_
    refine z_if_ne C 25 17 d_K_fillRecord_14 (by decide) rfl (fun c_14 => ?_) (fun c_14 => ?_)
    · refine z_iconst C (-1) 26 d_K_fillRecord_25 rfl (by decide) ?_
      refine z_istore_n C [(2, .int (-1)), (0, .ref (a 0)), (1, .int x1)] 27 d_K_fillRecord_26 rfl (by decide) rfl ?_
      refine z_iload_n C 28 d_K_fillRecord_27 rfl rfl ?_
      refine z_iconst C (-1) 29 d_K_fillRecord_28 rfl (by decide) ?_
      refine z_icmp_ne C 104 32 d_K_fillRecord_29 (by decide) rfl (fun c_29 => ?_) (fun c_29 => ?_)
      · exact absurd c_29 (by decide)
      · refine z_aload_n C 33 d_K_fillRecord_32 rfl rfl ?_
        refine z_bipush C 7 35 d_K_fillRecord_33 rfl (by decide) ?_
        refine z_goA C (z_V C kc_K_72 (c_K_next G l a (F_K_next (F_K_startTitle S x1) 5).2 7) (st := []) 0 0 rfl rfl rfl rfl (Nat.le_of_ble_eq_true rfl) ⟨⟨Nat.le_of_ble_eq_true rfl, Nat.le_of_ble_eq_true rfl⟩, Nat.le_of_ble_eq_true rfl, Nat.le_of_ble_eq_true rfl⟩ d_K_fillRecord_35) [.int (F_K_next (F_K_next (F_K_startTitle S x1) 5).2 7).1] 38 rfl rfl ?_
        refine z_istore_n C [(3, .int (F_K_next (F_K_next (F_K_startTitle S x1) 5).2 7).1), (2, .int (-1)), (0, .ref (a 0)), (1, .int x1)] 39 d_K_fillRecord_38 rfl (by decide) rfl ?_
        refine z_aload_n C 40 d_K_fillRecord_39 rfl rfl ?_
        refine z_bipush C 8 42 d_K_fillRecord_40 rfl (by decide) ?_
        refine z_goA C (z_V C kc_K_72 (c_K_next G l a (F_K_next (F_K_next (F_K_startTitle S x1) 5).2 7).2 8) (st := []) 0 0 rfl rfl rfl rfl (Nat.le_of_ble_eq_true rfl) ⟨⟨Nat.le_of_ble_eq_true rfl, Nat.le_of_ble_eq_true rfl⟩, Nat.le_of_ble_eq_true rfl, Nat.le_of_ble_eq_true rfl⟩ d_K_fillRecord_42) [.int (F_K_next (F_K_next (F_K_next (F_K_startTitle S x1) 5).2 7).2 8).1] 45 rfl rfl ?_
        refine z_if_ne C 52 48 d_K_fillRecord_45 (by decide) rfl (fun c_45 => ?_) (fun c_45 => ?_)
        · refine z_sipush C 1900 55 d_K_fillRecord_52 rfl (by decide) ?_
          refine z_aload_n C 56 d_K_fillRecord_55 rfl rfl ?_
          refine z_bipush C 120 58 d_K_fillRecord_56 rfl (by decide) ?_
          refine z_goA C (z_V C kc_K_72 (c_K_next G l a (F_K_next (F_K_next (F_K_next (F_K_startTitle S x1) 5).2 7).2 8).2 120) (st := [.int 1900]) 0 0 rfl rfl rfl rfl (Nat.le_of_ble_eq_true rfl) ⟨⟨Nat.le_of_ble_eq_true rfl, Nat.le_of_ble_eq_true rfl⟩, Nat.le_of_ble_eq_true rfl, Nat.le_of_ble_eq_true rfl⟩ d_K_fillRecord_58) [.int (F_K_next (F_K_next (F_K_next (F_K_next (F_K_startTitle S x1) 5).2 7).2 8).2 120).1, .int 1900] 61 rfl rfl ?_
          refine z_iadd C 62 d_K_fillRecord_61 rfl ?_
          refine z_istore C [(4, .int (1900 + (F_K_next (F_K_next (F_K_next (F_K_next (F_K_startTitle S x1) 5).2 7).2 8).2 120).1)), (3, .int (F_K_next (F_K_next (F_K_startTitle S x1) 5).2 7).1), (2, .int (-1)), (0, .ref (a 0)), (1, .int x1)] 64 d_K_fillRecord_62 rfl (by decide) rfl ?_
          refine z_aload_n C 65 d_K_fillRecord_64 rfl rfl ?_
          refine z_iload_n C 66 d_K_fillRecord_65 rfl rfl ?_
          refine z_iload_n C 67 d_K_fillRecord_66 rfl rfl ?_
          refine z_iload C 69 d_K_fillRecord_67 rfl rfl ?_
          refine z_iconst C (-1) 70 d_K_fillRecord_69 rfl (by decide) ?_
          refine z_goA C (z_V C kc_K_76 (c_K_put G l a (F_K_next (F_K_next (F_K_next (F_K_next (F_K_startTitle S x1) 5).2 7).2 8).2 120).2 x1 (F_K_next (F_K_next (F_K_startTitle S x1) 5).2 7).1 (1900 + (F_K_next (F_K_next (F_K_next (F_K_next (F_K_startTitle S x1) 5).2 7).2 8).2 120).1) (-1)) (st := []) 0 0 rfl rfl rfl rfl (Nat.le_of_ble_eq_true rfl) ⟨⟨Nat.le_of_ble_eq_true rfl, Nat.le_of_ble_eq_true rfl⟩, Nat.le_of_ble_eq_true rfl, Nat.le_of_ble_eq_true rfl⟩ d_K_fillRecord_70) [] 73 rfl rfl ?_
          refine z_iconst C 0 74 d_K_fillRecord_73 rfl (by decide) ?_
          refine z_istore C [(5, .int 0), (4, .int (1900 + (F_K_next (F_K_next (F_K_next (F_K_next (F_K_startTitle S x1) 5).2 7).2 8).2 120).1)), (3, .int (F_K_next (F_K_next (F_K_startTitle S x1) 5).2 7).1), (2, .int (-1)), (0, .ref (a 0)), (1, .int x1)] 76 d_K_fillRecord_74 rfl (by decide) rfl ?_
          refine z_lvs [4, 2, 0] [(0, .ref (a 0)), (3, .int (F_K_next (F_K_next (F_K_startTitle S x1) 5).2 7).1), (5, .int 0)] rfl ?_
          exact l_K_fillRecord_76 G l a C hlk hr _ (F_K_put (F_K_next (F_K_next (F_K_next (F_K_next (F_K_startTitle S x1) 5).2 7).2 8).2 120).2 x1 (F_K_next (F_K_next (F_K_startTitle S x1) 5).2 7).1 (1900 + (F_K_next (F_K_next (F_K_next (F_K_next (F_K_startTitle S x1) 5).2 7).2 8).2 120).1) (-1)) (F_K_next (F_K_next (F_K_startTitle S x1) 5).2 7).1 0 (Nat.lt_succ_self _) (by rw [show F_K_fillRecord S x1 = (L_K_fillRecord_76 ((Int32.toInt (F_K_next (F_K_next (F_K_startTitle S x1) 5).2 7).1 - Int32.toInt 0).toNat + 1) (F_K_put (F_K_next (F_K_next (F_K_next (F_K_next (F_K_startTitle S x1) 5).2 7).2 8).2 120).2 x1 (F_K_next (F_K_next (F_K_startTitle S x1) 5).2 7).1 (1900 + (F_K_next (F_K_next (F_K_next (F_K_next (F_K_startTitle S x1) 5).2 7).2 8).2 120).1) (-1)) (F_K_next (F_K_next (F_K_startTitle S x1) 5).2 7).1 0) from by rw [F_K_fillRecord, if_neg c_6, if_neg c_14, if_neg c_45]] at hq; exact hq)
        · refine z_iconst C 0 49 d_K_fillRecord_48 rfl (by decide) ?_
          refine z_goto C 62 d_K_fillRecord_49 (by decide) ?_
          refine z_istore C [(4, .int 0), (3, .int (F_K_next (F_K_next (F_K_startTitle S x1) 5).2 7).1), (2, .int (-1)), (0, .ref (a 0)), (1, .int x1)] 64 d_K_fillRecord_62 rfl (by decide) rfl ?_
          refine z_aload_n C 65 d_K_fillRecord_64 rfl rfl ?_
          refine z_iload_n C 66 d_K_fillRecord_65 rfl rfl ?_
          refine z_iload_n C 67 d_K_fillRecord_66 rfl rfl ?_
          refine z_iload C 69 d_K_fillRecord_67 rfl rfl ?_
          refine z_iconst C (-1) 70 d_K_fillRecord_69 rfl (by decide) ?_
          refine z_goA C (z_V C kc_K_76 (c_K_put G l a (F_K_next (F_K_next (F_K_next (F_K_startTitle S x1) 5).2 7).2 8).2 x1 (F_K_next (F_K_next (F_K_startTitle S x1) 5).2 7).1 0 (-1)) (st := []) 0 0 rfl rfl rfl rfl (Nat.le_of_ble_eq_true rfl) ⟨⟨Nat.le_of_ble_eq_true rfl, Nat.le_of_ble_eq_true rfl⟩, Nat.le_of_ble_eq_true rfl, Nat.le_of_ble_eq_true rfl⟩ d_K_fillRecord_70) [] 73 rfl rfl ?_
          refine z_iconst C 0 74 d_K_fillRecord_73 rfl (by decide) ?_
          refine z_istore C [(5, .int 0), (4, .int 0), (3, .int (F_K_next (F_K_next (F_K_startTitle S x1) 5).2 7).1), (2, .int (-1)), (0, .ref (a 0)), (1, .int x1)] 76 d_K_fillRecord_74 rfl (by decide) rfl ?_
          refine z_lvs [4, 2, 0] [(0, .ref (a 0)), (3, .int (F_K_next (F_K_next (F_K_startTitle S x1) 5).2 7).1), (5, .int 0)] rfl ?_
          exact l_K_fillRecord_76 G l a C hlk hr _ (F_K_put (F_K_next (F_K_next (F_K_next (F_K_startTitle S x1) 5).2 7).2 8).2 x1 (F_K_next (F_K_next (F_K_startTitle S x1) 5).2 7).1 0 (-1)) (F_K_next (F_K_next (F_K_startTitle S x1) 5).2 7).1 0 (Nat.lt_succ_self _) (by rw [show F_K_fillRecord S x1 = (L_K_fillRecord_76 ((Int32.toInt (F_K_next (F_K_next (F_K_startTitle S x1) 5).2 7).1 - Int32.toInt 0).toNat + 1) (F_K_put (F_K_next (F_K_next (F_K_next (F_K_startTitle S x1) 5).2 7).2 8).2 x1 (F_K_next (F_K_next (F_K_startTitle S x1) 5).2 7).1 0 (-1)) (F_K_next (F_K_next (F_K_startTitle S x1) 5).2 7).1 0) from by rw [F_K_fillRecord, if_neg c_6, if_neg c_14, if_pos c_45]] at hq; exact hq)
    · refine z_aload_n C 18 d_K_fillRecord_17 rfl rfl ?_
      refine z_iload_n C 19 d_K_fillRecord_18 rfl rfl ?_
      refine z_goA C (z_V C kc_K_72 (c_K_next G l a (F_K_next (F_K_startTitle S x1) 5).2 x1) (st := []) 0 0 rfl rfl rfl rfl (Nat.le_of_ble_eq_true rfl) ⟨⟨Nat.le_of_ble_eq_true rfl, Nat.le_of_ble_eq_true rfl⟩, Nat.le_of_ble_eq_true rfl, Nat.le_of_ble_eq_true rfl⟩ d_K_fillRecord_19) [.int (F_K_next (F_K_next (F_K_startTitle S x1) 5).2 x1).1] 22 rfl rfl ?_
      refine z_goto C 26 d_K_fillRecord_22 (by decide) ?_
      refine z_istore_n C [(2, .int (F_K_next (F_K_next (F_K_startTitle S x1) 5).2 x1).1), (0, .ref (a 0)), (1, .int x1)] 27 d_K_fillRecord_26 rfl (by decide) rfl ?_
      refine z_iload_n C 28 d_K_fillRecord_27 rfl rfl ?_
      refine z_iconst C (-1) 29 d_K_fillRecord_28 rfl (by decide) ?_
      refine z_icmp_ne C 104 32 d_K_fillRecord_29 (by decide) rfl (fun c_29 => ?_) (fun c_29 => ?_)
      · refine z_aload_n C 105 d_K_fillRecord_104 rfl rfl ?_
        refine z_iload_n C 106 d_K_fillRecord_105 rfl rfl ?_
        refine z_aload_n C 107 d_K_fillRecord_106 rfl rfl ?_
        refine z_iload_n C 108 d_K_fillRecord_107 rfl rfl ?_
        refine z_iconst C 0 109 d_K_fillRecord_108 rfl (by decide) ?_
        refine z_goA C (z_V C kc_K_83 (c_K_number G l a (F_K_next (F_K_next (F_K_startTitle S x1) 5).2 x1).2 (F_K_next (F_K_next (F_K_startTitle S x1) 5).2 x1).1 0) (st := [.int x1, .ref (a 0)]) 0 0 rfl rfl rfl rfl (Nat.le_of_ble_eq_true rfl) ⟨⟨Nat.le_of_ble_eq_true rfl, Nat.le_of_ble_eq_true rfl⟩, Nat.le_of_ble_eq_true rfl, Nat.le_of_ble_eq_true rfl⟩ d_K_fillRecord_109) [.int (F_K_number (F_K_next (F_K_next (F_K_startTitle S x1) 5).2 x1).2 (F_K_next (F_K_next (F_K_startTitle S x1) 5).2 x1).1 0), .int x1, .ref (a 0)] 112 rfl rfl ?_
        refine z_aload_n C 113 d_K_fillRecord_112 rfl rfl ?_
        refine z_iload_n C 114 d_K_fillRecord_113 rfl rfl ?_
        refine z_iconst C 1 115 d_K_fillRecord_114 rfl (by decide) ?_
        refine z_goA C (z_V C kc_K_83 (c_K_number G l a (F_K_next (F_K_next (F_K_startTitle S x1) 5).2 x1).2 (F_K_next (F_K_next (F_K_startTitle S x1) 5).2 x1).1 1) (st := [.int (F_K_number (F_K_next (F_K_next (F_K_startTitle S x1) 5).2 x1).2 (F_K_next (F_K_next (F_K_startTitle S x1) 5).2 x1).1 0), .int x1, .ref (a 0)]) 0 0 rfl rfl rfl rfl (Nat.le_of_ble_eq_true rfl) ⟨⟨Nat.le_of_ble_eq_true rfl, Nat.le_of_ble_eq_true rfl⟩, Nat.le_of_ble_eq_true rfl, Nat.le_of_ble_eq_true rfl⟩ d_K_fillRecord_115) [.int (F_K_number (F_K_next (F_K_next (F_K_startTitle S x1) 5).2 x1).2 (F_K_next (F_K_next (F_K_startTitle S x1) 5).2 x1).1 1), .int (F_K_number (F_K_next (F_K_next (F_K_startTitle S x1) 5).2 x1).2 (F_K_next (F_K_next (F_K_startTitle S x1) 5).2 x1).1 0), .int x1, .ref (a 0)] 118 rfl rfl ?_
        refine z_iload_n C 119 d_K_fillRecord_118 rfl rfl ?_
        refine z_goA C (z_V C kc_K_76 (c_K_put G l a (F_K_next (F_K_next (F_K_startTitle S x1) 5).2 x1).2 x1 (F_K_number (F_K_next (F_K_next (F_K_startTitle S x1) 5).2 x1).2 (F_K_next (F_K_next (F_K_startTitle S x1) 5).2 x1).1 0) (F_K_number (F_K_next (F_K_next (F_K_startTitle S x1) 5).2 x1).2 (F_K_next (F_K_next (F_K_startTitle S x1) 5).2 x1).1 1) (F_K_next (F_K_next (F_K_startTitle S x1) 5).2 x1).1) (st := []) 0 0 rfl rfl rfl rfl (Nat.le_of_ble_eq_true rfl) ⟨⟨Nat.le_of_ble_eq_true rfl, Nat.le_of_ble_eq_true rfl⟩, Nat.le_of_ble_eq_true rfl, Nat.le_of_ble_eq_true rfl⟩ d_K_fillRecord_119) [] 122 rfl rfl ?_
        refine z_aload_n C 123 d_K_fillRecord_122 rfl rfl ?_
        refine z_iload_n C 124 d_K_fillRecord_123 rfl rfl ?_
        refine z_goA C (z_V C kc_K_87 (c_K_repeatTitle G l a (F_K_put (F_K_next (F_K_next (F_K_startTitle S x1) 5).2 x1).2 x1 (F_K_number (F_K_next (F_K_next (F_K_startTitle S x1) 5).2 x1).2 (F_K_next (F_K_next (F_K_startTitle S x1) 5).2 x1).1 0) (F_K_number (F_K_next (F_K_next (F_K_startTitle S x1) 5).2 x1).2 (F_K_next (F_K_next (F_K_startTitle S x1) 5).2 x1).1 1) (F_K_next (F_K_next (F_K_startTitle S x1) 5).2 x1).1) (F_K_next (F_K_next (F_K_startTitle S x1) 5).2 x1).1) (st := []) 0 0 rfl rfl rfl rfl (Nat.le_of_ble_eq_true rfl) ⟨⟨Nat.le_of_ble_eq_true rfl, Nat.le_of_ble_eq_true rfl⟩, Nat.le_of_ble_eq_true rfl, Nat.le_of_ble_eq_true rfl⟩ d_K_fillRecord_124) [] 127 rfl rfl ?_
        refine z_aload_n C 128 d_K_fillRecord_127 rfl rfl ?_
        refine z_bipush C 10 130 d_K_fillRecord_128 rfl (by decide) ?_
        refine z_goA C (z_V C kc_K_80 (c_K_addSign G l a (F_K_repeatTitle (F_K_put (F_K_next (F_K_next (F_K_startTitle S x1) 5).2 x1).2 x1 (F_K_number (F_K_next (F_K_next (F_K_startTitle S x1) 5).2 x1).2 (F_K_next (F_K_next (F_K_startTitle S x1) 5).2 x1).1 0) (F_K_number (F_K_next (F_K_next (F_K_startTitle S x1) 5).2 x1).2 (F_K_next (F_K_next (F_K_startTitle S x1) 5).2 x1).1 1) (F_K_next (F_K_next (F_K_startTitle S x1) 5).2 x1).1) (F_K_next (F_K_next (F_K_startTitle S x1) 5).2 x1).1) 10) (st := []) 0 0 rfl rfl rfl rfl (Nat.le_of_ble_eq_true rfl) ⟨⟨Nat.le_of_ble_eq_true rfl, Nat.le_of_ble_eq_true rfl⟩, Nat.le_of_ble_eq_true rfl, Nat.le_of_ble_eq_true rfl⟩ d_K_fillRecord_130) [] 133 rfl rfl ?_
        exact z_vret C hlk hr d_K_fillRecord_133 (by rw [show F_K_fillRecord S x1 = (F_K_addSign (F_K_repeatTitle (F_K_put (F_K_next (F_K_next (F_K_startTitle S x1) 5).2 x1).2 x1 (F_K_number (F_K_next (F_K_next (F_K_startTitle S x1) 5).2 x1).2 (F_K_next (F_K_next (F_K_startTitle S x1) 5).2 x1).1 0) (F_K_number (F_K_next (F_K_next (F_K_startTitle S x1) 5).2 x1).2 (F_K_next (F_K_next (F_K_startTitle S x1) 5).2 x1).1 1) (F_K_next (F_K_next (F_K_startTitle S x1) 5).2 x1).1) (F_K_next (F_K_next (F_K_startTitle S x1) 5).2 x1).1) 10) from by rw [F_K_fillRecord, if_neg c_6, if_pos c_14, if_neg c_29]] at hq; exact hq)
      · refine z_aload_n C 33 d_K_fillRecord_32 rfl rfl ?_
        refine z_bipush C 7 35 d_K_fillRecord_33 rfl (by decide) ?_
        refine z_goA C (z_V C kc_K_72 (c_K_next G l a (F_K_next (F_K_next (F_K_startTitle S x1) 5).2 x1).2 7) (st := []) 0 0 rfl rfl rfl rfl (Nat.le_of_ble_eq_true rfl) ⟨⟨Nat.le_of_ble_eq_true rfl, Nat.le_of_ble_eq_true rfl⟩, Nat.le_of_ble_eq_true rfl, Nat.le_of_ble_eq_true rfl⟩ d_K_fillRecord_35) [.int (F_K_next (F_K_next (F_K_next (F_K_startTitle S x1) 5).2 x1).2 7).1] 38 rfl rfl ?_
        refine z_istore_n C [(3, .int (F_K_next (F_K_next (F_K_next (F_K_startTitle S x1) 5).2 x1).2 7).1), (2, .int (F_K_next (F_K_next (F_K_startTitle S x1) 5).2 x1).1), (0, .ref (a 0)), (1, .int x1)] 39 d_K_fillRecord_38 rfl (by decide) rfl ?_
        refine z_aload_n C 40 d_K_fillRecord_39 rfl rfl ?_
        refine z_bipush C 8 42 d_K_fillRecord_40 rfl (by decide) ?_
        refine z_goA C (z_V C kc_K_72 (c_K_next G l a (F_K_next (F_K_next (F_K_next (F_K_startTitle S x1) 5).2 x1).2 7).2 8) (st := []) 0 0 rfl rfl rfl rfl (Nat.le_of_ble_eq_true rfl) ⟨⟨Nat.le_of_ble_eq_true rfl, Nat.le_of_ble_eq_true rfl⟩, Nat.le_of_ble_eq_true rfl, Nat.le_of_ble_eq_true rfl⟩ d_K_fillRecord_42) [.int (F_K_next (F_K_next (F_K_next (F_K_next (F_K_startTitle S x1) 5).2 x1).2 7).2 8).1] 45 rfl rfl ?_
        refine z_if_ne C 52 48 d_K_fillRecord_45 (by decide) rfl (fun c_45 => ?_) (fun c_45 => ?_)
        · refine z_sipush C 1900 55 d_K_fillRecord_52 rfl (by decide) ?_
          refine z_aload_n C 56 d_K_fillRecord_55 rfl rfl ?_
          refine z_bipush C 120 58 d_K_fillRecord_56 rfl (by decide) ?_
          refine z_goA C (z_V C kc_K_72 (c_K_next G l a (F_K_next (F_K_next (F_K_next (F_K_next (F_K_startTitle S x1) 5).2 x1).2 7).2 8).2 120) (st := [.int 1900]) 0 0 rfl rfl rfl rfl (Nat.le_of_ble_eq_true rfl) ⟨⟨Nat.le_of_ble_eq_true rfl, Nat.le_of_ble_eq_true rfl⟩, Nat.le_of_ble_eq_true rfl, Nat.le_of_ble_eq_true rfl⟩ d_K_fillRecord_58) [.int (F_K_next (F_K_next (F_K_next (F_K_next (F_K_next (F_K_startTitle S x1) 5).2 x1).2 7).2 8).2 120).1, .int 1900] 61 rfl rfl ?_
          refine z_iadd C 62 d_K_fillRecord_61 rfl ?_
          refine z_istore C [(4, .int (1900 + (F_K_next (F_K_next (F_K_next (F_K_next (F_K_next (F_K_startTitle S x1) 5).2 x1).2 7).2 8).2 120).1)), (3, .int (F_K_next (F_K_next (F_K_next (F_K_startTitle S x1) 5).2 x1).2 7).1), (2, .int (F_K_next (F_K_next (F_K_startTitle S x1) 5).2 x1).1), (0, .ref (a 0)), (1, .int x1)] 64 d_K_fillRecord_62 rfl (by decide) rfl ?_
          refine z_aload_n C 65 d_K_fillRecord_64 rfl rfl ?_
          refine z_iload_n C 66 d_K_fillRecord_65 rfl rfl ?_
          refine z_iload_n C 67 d_K_fillRecord_66 rfl rfl ?_
          refine z_iload C 69 d_K_fillRecord_67 rfl rfl ?_
          refine z_iconst C (-1) 70 d_K_fillRecord_69 rfl (by decide) ?_
          refine z_goA C (z_V C kc_K_76 (c_K_put G l a (F_K_next (F_K_next (F_K_next (F_K_next (F_K_next (F_K_startTitle S x1) 5).2 x1).2 7).2 8).2 120).2 x1 (F_K_next (F_K_next (F_K_next (F_K_startTitle S x1) 5).2 x1).2 7).1 (1900 + (F_K_next (F_K_next (F_K_next (F_K_next (F_K_next (F_K_startTitle S x1) 5).2 x1).2 7).2 8).2 120).1) (-1)) (st := []) 0 0 rfl rfl rfl rfl (Nat.le_of_ble_eq_true rfl) ⟨⟨Nat.le_of_ble_eq_true rfl, Nat.le_of_ble_eq_true rfl⟩, Nat.le_of_ble_eq_true rfl, Nat.le_of_ble_eq_true rfl⟩ d_K_fillRecord_70) [] 73 rfl rfl ?_
          refine z_iconst C 0 74 d_K_fillRecord_73 rfl (by decide) ?_
          refine z_istore C [(5, .int 0), (4, .int (1900 + (F_K_next (F_K_next (F_K_next (F_K_next (F_K_next (F_K_startTitle S x1) 5).2 x1).2 7).2 8).2 120).1)), (3, .int (F_K_next (F_K_next (F_K_next (F_K_startTitle S x1) 5).2 x1).2 7).1), (2, .int (F_K_next (F_K_next (F_K_startTitle S x1) 5).2 x1).1), (0, .ref (a 0)), (1, .int x1)] 76 d_K_fillRecord_74 rfl (by decide) rfl ?_
          refine z_lvs [4, 2, 0] [(0, .ref (a 0)), (3, .int (F_K_next (F_K_next (F_K_next (F_K_startTitle S x1) 5).2 x1).2 7).1), (5, .int 0)] rfl ?_
          exact l_K_fillRecord_76 G l a C hlk hr _ (F_K_put (F_K_next (F_K_next (F_K_next (F_K_next (F_K_next (F_K_startTitle S x1) 5).2 x1).2 7).2 8).2 120).2 x1 (F_K_next (F_K_next (F_K_next (F_K_startTitle S x1) 5).2 x1).2 7).1 (1900 + (F_K_next (F_K_next (F_K_next (F_K_next (F_K_next (F_K_startTitle S x1) 5).2 x1).2 7).2 8).2 120).1) (-1)) (F_K_next (F_K_next (F_K_next (F_K_startTitle S x1) 5).2 x1).2 7).1 0 (Nat.lt_succ_self _) (by rw [show F_K_fillRecord S x1 = (L_K_fillRecord_76 ((Int32.toInt (F_K_next (F_K_next (F_K_next (F_K_startTitle S x1) 5).2 x1).2 7).1 - Int32.toInt 0).toNat + 1) (F_K_put (F_K_next (F_K_next (F_K_next (F_K_next (F_K_next (F_K_startTitle S x1) 5).2 x1).2 7).2 8).2 120).2 x1 (F_K_next (F_K_next (F_K_next (F_K_startTitle S x1) 5).2 x1).2 7).1 (1900 + (F_K_next (F_K_next (F_K_next (F_K_next (F_K_next (F_K_startTitle S x1) 5).2 x1).2 7).2 8).2 120).1) (-1)) (F_K_next (F_K_next (F_K_next (F_K_startTitle S x1) 5).2 x1).2 7).1 0) from by rw [F_K_fillRecord, if_neg c_6, if_pos c_14, if_pos c_29, if_neg c_45]] at hq; exact hq)
        · refine z_iconst C 0 49 d_K_fillRecord_48 rfl (by decide) ?_
          refine z_goto C 62 d_K_fillRecord_49 (by decide) ?_
          refine z_istore C [(4, .int 0), (3, .int (F_K_next (F_K_next (F_K_next (F_K_startTitle S x1) 5).2 x1).2 7).1), (2, .int (F_K_next (F_K_next (F_K_startTitle S x1) 5).2 x1).1), (0, .ref (a 0)), (1, .int x1)] 64 d_K_fillRecord_62 rfl (by decide) rfl ?_
          refine z_aload_n C 65 d_K_fillRecord_64 rfl rfl ?_
          refine z_iload_n C 66 d_K_fillRecord_65 rfl rfl ?_
          refine z_iload_n C 67 d_K_fillRecord_66 rfl rfl ?_
          refine z_iload C 69 d_K_fillRecord_67 rfl rfl ?_
          refine z_iconst C (-1) 70 d_K_fillRecord_69 rfl (by decide) ?_
          refine z_goA C (z_V C kc_K_76 (c_K_put G l a (F_K_next (F_K_next (F_K_next (F_K_next (F_K_startTitle S x1) 5).2 x1).2 7).2 8).2 x1 (F_K_next (F_K_next (F_K_next (F_K_startTitle S x1) 5).2 x1).2 7).1 0 (-1)) (st := []) 0 0 rfl rfl rfl rfl (Nat.le_of_ble_eq_true rfl) ⟨⟨Nat.le_of_ble_eq_true rfl, Nat.le_of_ble_eq_true rfl⟩, Nat.le_of_ble_eq_true rfl, Nat.le_of_ble_eq_true rfl⟩ d_K_fillRecord_70) [] 73 rfl rfl ?_
          refine z_iconst C 0 74 d_K_fillRecord_73 rfl (by decide) ?_
          refine z_istore C [(5, .int 0), (4, .int 0), (3, .int (F_K_next (F_K_next (F_K_next (F_K_startTitle S x1) 5).2 x1).2 7).1), (2, .int (F_K_next (F_K_next (F_K_startTitle S x1) 5).2 x1).1), (0, .ref (a 0)), (1, .int x1)] 76 d_K_fillRecord_74 rfl (by decide) rfl ?_
          refine z_lvs [4, 2, 0] [(0, .ref (a 0)), (3, .int (F_K_next (F_K_next (F_K_next (F_K_startTitle S x1) 5).2 x1).2 7).1), (5, .int 0)] rfl ?_
          exact l_K_fillRecord_76 G l a C hlk hr _ (F_K_put (F_K_next (F_K_next (F_K_next (F_K_next (F_K_startTitle S x1) 5).2 x1).2 7).2 8).2 x1 (F_K_next (F_K_next (F_K_next (F_K_startTitle S x1) 5).2 x1).2 7).1 0 (-1)) (F_K_next (F_K_next (F_K_next (F_K_startTitle S x1) 5).2 x1).2 7).1 0 (Nat.lt_succ_self _) (by rw [show F_K_fillRecord S x1 = (L_K_fillRecord_76 ((Int32.toInt (F_K_next (F_K_next (F_K_next (F_K_startTitle S x1) 5).2 x1).2 7).1 - Int32.toInt 0).toNat + 1) (F_K_put (F_K_next (F_K_next (F_K_next (F_K_next (F_K_startTitle S x1) 5).2 x1).2 7).2 8).2 x1 (F_K_next (F_K_next (F_K_next (F_K_startTitle S x1) 5).2 x1).2 7).1 0 (-1)) (F_K_next (F_K_next (F_K_next (F_K_startTitle S x1) 5).2 x1).2 7).1 0) from by rw [F_K_fillRecord, if_neg c_6, if_pos c_14, if_pos c_29, if_pos c_45]] at hq; exact hq)

def L_K_fillFileWithWinner_27 : Nat → SK → Int32 → Int32 → Int32 → Int32 → Int32 → Int32 → SK
  | 0, S, v1, v2, v3, v4, v5, v6 => S
  | n + 1, S, v1, v2, v3, v4, v5, v6 =>
    if v2 ≤ v6 then
      (F_K_put S v1 v2 v5 0)
    else
      if v4 ≤ v6 then
        (L_K_fillFileWithWinner_27 n (F_K_next S 3).2 v1 v2 v3 v4 (v5 + ((F_K_next S 3).1 <<< ((2 * v6) &&& 31))) (v6 + 1))
      else
        (L_K_fillFileWithWinner_27 n S v1 v2 v3 v4 (v5 + (v3 <<< ((2 * v6) &&& 31))) (v6 + 1))
set_option maxRecDepth 100000 in
set_option maxHeartbeats 4000000 in
theorem l_K_fillFileWithWinner_27 (G : zG) (l : Launch) (a : Nat → Nat) {p : Program} {e : Env} {s : State} {m : MethodId} {args : Array Value} {below : List Frame} {meth : Method} {c : Code} {w0 : va_W} {Post : Option Value → va_W → Prop} (C : zC p s m args meth c b_K_fillFileWithWinner 8 N_K G (va_A w0 s.heap.size)) (hlk : meth.locks = false) (hr : meth.sig.returnType = none) :
    ∀ (n : Nat) (S : SK) (v1 : Int32) (v2 : Int32) (v3 : Int32) (v4 : Int32) (v5 : Int32) (v6 : Int32), (Int32.toInt v2 - Int32.toInt v6).toNat < n → Post (none) (wK G a (L_K_fillFileWithWinner_27 n S v1 v2 v3 v4 v5 v6)) → zV p l e (zR 2 45) s m args below meth c 8 G (va_A w0 s.heap.size) (MQ below (zQ G w0 s.heap.size Post) args s 0 0 (va_A w0 s.heap.size)) 0 0 (wK G a S) 27 [(0, .ref (a 0)), (1, .int v1), (2, .int v2), (3, .int v3), (4, .int v4), (5, .int v5), (6, .int v6)] [] := by
  intro n
  induction n with
  | zero => intro S v1 v2 v3 v4 v5 v6 h; exact absurd h (Nat.not_lt_zero _)
  | succ n ih =>
    intro S v1 v2 v3 v4 v5 v6 hmu hq
    refine z_iload C 29 d_K_fillFileWithWinner_27 rfl rfl ?_
    refine z_iload_n C 30 d_K_fillFileWithWinner_29 rfl rfl ?_
    refine z_icmp_ge C 69 33 d_K_fillFileWithWinner_30 (by decide) rfl (fun c_30 => ?_) (fun c_30 => ?_)
    · refine z_aload_n C 70 d_K_fillFileWithWinner_69 rfl rfl ?_
      refine z_iload_n C 71 d_K_fillFileWithWinner_70 rfl rfl ?_
      refine z_iload_n C 72 d_K_fillFileWithWinner_71 rfl rfl ?_
      refine z_iload C 74 d_K_fillFileWithWinner_72 rfl rfl ?_
      refine z_iconst C 0 75 d_K_fillFileWithWinner_74 rfl (by decide) ?_
      refine z_goA C (z_V C kc_K_76 (c_K_put G l a S v1 v2 v5 0) (st := []) 0 0 rfl rfl rfl rfl (Nat.le_of_ble_eq_true rfl) ⟨⟨Nat.le_of_ble_eq_true rfl, Nat.le_of_ble_eq_true rfl⟩, Nat.le_of_ble_eq_true rfl, Nat.le_of_ble_eq_true rfl⟩ d_K_fillFileWithWinner_75) [] 78 rfl rfl ?_
      exact z_vret C hlk hr d_K_fillFileWithWinner_78 (by rw [show L_K_fillFileWithWinner_27 (n + 1) S v1 v2 v3 v4 v5 v6 = (F_K_put S v1 v2 v5 0) from by rw [L_K_fillFileWithWinner_27, if_pos c_30]] at hq; exact hq)
    · refine z_iload C 35 d_K_fillFileWithWinner_33 rfl rfl ?_
      refine z_iload C 37 d_K_fillFileWithWinner_35 rfl rfl ?_
      refine z_icmp_ge C 44 40 d_K_fillFileWithWinner_37 (by decide) rfl (fun c_37 => ?_) (fun c_37 => ?_)
      · refine z_aload_n C 45 d_K_fillFileWithWinner_44 rfl rfl ?_
        refine z_iconst C 3 46 d_K_fillFileWithWinner_45 rfl (by decide) ?_
        refine z_goA C (z_V C kc_K_72 (c_K_next G l a S 3) (st := []) 0 0 rfl rfl rfl rfl (Nat.le_of_ble_eq_true rfl) ⟨⟨Nat.le_of_ble_eq_true rfl, Nat.le_of_ble_eq_true rfl⟩, Nat.le_of_ble_eq_true rfl, Nat.le_of_ble_eq_true rfl⟩ d_K_fillFileWithWinner_46) [.int (F_K_next S 3).1] 49 rfl rfl ?_
        refine z_istore C [(7, .int (F_K_next S 3).1), (0, .ref (a 0)), (1, .int v1), (2, .int v2), (3, .int v3), (4, .int v4), (5, .int v5), (6, .int v6)] 51 d_K_fillFileWithWinner_49 rfl (by decide) rfl ?_
        refine z_iload C 53 d_K_fillFileWithWinner_51 rfl rfl ?_
        refine z_iload C 55 d_K_fillFileWithWinner_53 rfl rfl ?_
        refine z_iconst C 2 56 d_K_fillFileWithWinner_55 rfl (by decide) ?_
        refine z_iload C 58 d_K_fillFileWithWinner_56 rfl rfl ?_
        refine z_imul C 59 d_K_fillFileWithWinner_58 rfl ?_
        refine z_ishl C 60 d_K_fillFileWithWinner_59 rfl ?_
        refine z_iadd C 61 d_K_fillFileWithWinner_60 rfl ?_
        refine z_istore C [(5, .int (v5 + ((F_K_next S 3).1 <<< ((2 * v6) &&& 31)))), (7, .int (F_K_next S 3).1), (0, .ref (a 0)), (1, .int v1), (2, .int v2), (3, .int v3), (4, .int v4), (6, .int v6)] 63 d_K_fillFileWithWinner_61 rfl (by decide) rfl ?_
        refine z_iinc C (v6 + 1) [(6, .int (v6 + 1)), (5, .int (v5 + ((F_K_next S 3).1 <<< ((2 * v6) &&& 31)))), (7, .int (F_K_next S 3).1), (0, .ref (a 0)), (1, .int v1), (2, .int v2), (3, .int v3), (4, .int v4)] 66 d_K_fillFileWithWinner_63 rfl (by decide) rfl rfl rfl ?_
        refine z_goto C 27 d_K_fillFileWithWinner_66 (by decide) ?_
        refine z_lvs [3, 4, 5, 6, 7, 1, 0] [(0, .ref (a 0)), (1, .int v1), (2, .int v2), (3, .int v3), (4, .int v4), (5, .int (v5 + ((F_K_next S 3).1 <<< ((2 * v6) &&& 31)))), (6, .int (v6 + 1))] rfl ?_
        exact ih (F_K_next S 3).2 v1 v2 v3 v4 (v5 + ((F_K_next S 3).1 <<< ((2 * v6) &&& 31))) (v6 + 1) (zdec c_30 hmu) (by rw [show L_K_fillFileWithWinner_27 (n + 1) S v1 v2 v3 v4 v5 v6 = (L_K_fillFileWithWinner_27 n (F_K_next S 3).2 v1 v2 v3 v4 (v5 + ((F_K_next S 3).1 <<< ((2 * v6) &&& 31))) (v6 + 1)) from by rw [L_K_fillFileWithWinner_27, if_neg c_30, if_pos c_37]] at hq; exact hq)
      · refine z_iload_n C 41 d_K_fillFileWithWinner_40 rfl rfl ?_
        refine z_goto C 49 d_K_fillFileWithWinner_41 (by decide) ?_
        refine z_istore C [(7, .int v3), (0, .ref (a 0)), (1, .int v1), (2, .int v2), (3, .int v3), (4, .int v4), (5, .int v5), (6, .int v6)] 51 d_K_fillFileWithWinner_49 rfl (by decide) rfl ?_
        refine z_iload C 53 d_K_fillFileWithWinner_51 rfl rfl ?_
        refine z_iload C 55 d_K_fillFileWithWinner_53 rfl rfl ?_
        refine z_iconst C 2 56 d_K_fillFileWithWinner_55 rfl (by decide) ?_
        refine z_iload C 58 d_K_fillFileWithWinner_56 rfl rfl ?_
        refine z_imul C 59 d_K_fillFileWithWinner_58 rfl ?_
        refine z_ishl C 60 d_K_fillFileWithWinner_59 rfl ?_
        refine z_iadd C 61 d_K_fillFileWithWinner_60 rfl ?_
        refine z_istore C [(5, .int (v5 + (v3 <<< ((2 * v6) &&& 31)))), (7, .int v3), (0, .ref (a 0)), (1, .int v1), (2, .int v2), (3, .int v3), (4, .int v4), (6, .int v6)] 63 d_K_fillFileWithWinner_61 rfl (by decide) rfl ?_
        refine z_iinc C (v6 + 1) [(6, .int (v6 + 1)), (5, .int (v5 + (v3 <<< ((2 * v6) &&& 31)))), (7, .int v3), (0, .ref (a 0)), (1, .int v1), (2, .int v2), (3, .int v3), (4, .int v4)] 66 d_K_fillFileWithWinner_63 rfl (by decide) rfl rfl rfl ?_
        refine z_goto C 27 d_K_fillFileWithWinner_66 (by decide) ?_
        refine z_lvs [3, 4, 5, 6, 7, 1, 0] [(0, .ref (a 0)), (1, .int v1), (2, .int v2), (3, .int v3), (4, .int v4), (5, .int (v5 + (v3 <<< ((2 * v6) &&& 31)))), (6, .int (v6 + 1))] rfl ?_
        exact ih S v1 v2 v3 v4 (v5 + (v3 <<< ((2 * v6) &&& 31))) (v6 + 1) (zdec c_30 hmu) (by rw [show L_K_fillFileWithWinner_27 (n + 1) S v1 v2 v3 v4 v5 v6 = (L_K_fillFileWithWinner_27 n S v1 v2 v3 v4 (v5 + (v3 <<< ((2 * v6) &&& 31))) (v6 + 1)) from by rw [L_K_fillFileWithWinner_27, if_neg c_30, if_neg c_37]] at hq; exact hq)
def F_K_fillFileWithWinner (S : SK) (x1 : Int32) : SK :=
  (L_K_fillFileWithWinner_27 ((Int32.toInt (1 + (F_K_next S 5).1) - Int32.toInt 0).toNat + 1) (F_K_next (F_K_next S 5).2 3).2 x1 (1 + (F_K_next S 5).1) (F_K_next (F_K_next S 5).2 3).1 (((1 + (F_K_next S 5).1) / 2) + 1) 0 0)
set_option maxRecDepth 100000 in
set_option maxHeartbeats 4000000 in
theorem c_K_fillFileWithWinner (G : zG) (l : Launch) (a : Nat → Nat) (S : SK) (x1 : Int32)  : zM G l y_K_fillFileWithWinner b_K_fillFileWithWinner 8 (none) (zR 2 45) [.ref (a 0), .int x1] (wK G a S) (fun r1 w1 => r1 = none ∧ w1 = wK G a (F_K_fillFileWithWinner S x1)) := by
  generalize hPost : (fun (r1 : Option Value) (w1 : va_W) => r1 = none ∧ w1 = wK G a (F_K_fillFileWithWinner S x1)) = Post
  have hq : Post (none) (wK G a (F_K_fillFileWithWinner S x1)) := by rw [← hPost]; exact ⟨rfl, rfl⟩
  clear hPost
  refine zM_of (by decide) (Nat.le_of_ble_eq_true rfl) ?_
  intro p e s m args below meth c C hlk hr hin
  refine z_iconst C 1 1 d_K_fillFileWithWinner_0 rfl (by decide) ?_
  refine z_aload_n C 2 d_K_fillFileWithWinner_1 rfl rfl ?_
  refine z_iconst C 5 3 d_K_fillFileWithWinner_2 rfl (by decide) ?_
  refine z_goA C (z_V C kc_K_72 (c_K_next G l a S 5) (st := [.int 1]) 0 0 rfl rfl rfl rfl (Nat.le_of_ble_eq_true rfl) ⟨⟨Nat.le_of_ble_eq_true rfl, Nat.le_of_ble_eq_true rfl⟩, Nat.le_of_ble_eq_true rfl, Nat.le_of_ble_eq_true rfl⟩ d_K_fillFileWithWinner_3) [.int (F_K_next S 5).1, .int 1] 6 rfl rfl ?_
  refine z_iadd C 7 d_K_fillFileWithWinner_6 rfl ?_
  refine z_istore_n C [(2, .int (1 + (F_K_next S 5).1)), (0, .ref (a 0)), (1, .int x1)] 8 d_K_fillFileWithWinner_7 rfl (by decide) rfl ?_
  refine z_aload_n C 9 d_K_fillFileWithWinner_8 rfl rfl ?_
  refine z_iconst C 3 10 d_K_fillFileWithWinner_9 rfl (by decide) ?_
  refine z_goA C (z_V C kc_K_72 (c_K_next G l a (F_K_next S 5).2 3) (st := []) 0 0 rfl rfl rfl rfl (Nat.le_of_ble_eq_true rfl) ⟨⟨Nat.le_of_ble_eq_true rfl, Nat.le_of_ble_eq_true rfl⟩, Nat.le_of_ble_eq_true rfl, Nat.le_of_ble_eq_true rfl⟩ d_K_fillFileWithWinner_10) [.int (F_K_next (F_K_next S 5).2 3).1] 13 rfl rfl ?_
  refine z_istore_n C [(3, .int (F_K_next (F_K_next S 5).2 3).1), (2, .int (1 + (F_K_next S 5).1)), (0, .ref (a 0)), (1, .int x1)] 14 d_K_fillFileWithWinner_13 rfl (by decide) rfl ?_
  refine z_iload_n C 15 d_K_fillFileWithWinner_14 rfl rfl ?_
  refine z_iconst C 2 16 d_K_fillFileWithWinner_15 rfl (by decide) ?_
  refine z_idiv C 17 d_K_fillFileWithWinner_16 rfl (by decide) ?_
  refine z_iconst C 1 18 d_K_fillFileWithWinner_17 rfl (by decide) ?_
  refine z_iadd C 19 d_K_fillFileWithWinner_18 rfl ?_
  refine z_istore C [(4, .int (((1 + (F_K_next S 5).1) / 2) + 1)), (3, .int (F_K_next (F_K_next S 5).2 3).1), (2, .int (1 + (F_K_next S 5).1)), (0, .ref (a 0)), (1, .int x1)] 21 d_K_fillFileWithWinner_19 rfl (by decide) rfl ?_
  refine z_iconst C 0 22 d_K_fillFileWithWinner_21 rfl (by decide) ?_
  refine z_istore C [(5, .int 0), (4, .int (((1 + (F_K_next S 5).1) / 2) + 1)), (3, .int (F_K_next (F_K_next S 5).2 3).1), (2, .int (1 + (F_K_next S 5).1)), (0, .ref (a 0)), (1, .int x1)] 24 d_K_fillFileWithWinner_22 rfl (by decide) rfl ?_
  refine z_iconst C 0 25 d_K_fillFileWithWinner_24 rfl (by decide) ?_
  refine z_istore C [(6, .int 0), (5, .int 0), (4, .int (((1 + (F_K_next S 5).1) / 2) + 1)), (3, .int (F_K_next (F_K_next S 5).2 3).1), (2, .int (1 + (F_K_next S 5).1)), (0, .ref (a 0)), (1, .int x1)] 27 d_K_fillFileWithWinner_25 rfl (by decide) rfl ?_
  refine z_lvs [5, 6, 4, 3, 2, 1, 0] [(0, .ref (a 0)), (1, .int x1), (2, .int (1 + (F_K_next S 5).1)), (3, .int (F_K_next (F_K_next S 5).2 3).1), (4, .int (((1 + (F_K_next S 5).1) / 2) + 1)), (5, .int 0), (6, .int 0)] rfl ?_
  exact l_K_fillFileWithWinner_27 G l a C hlk hr _ (F_K_next (F_K_next S 5).2 3).2 x1 (1 + (F_K_next S 5).1) (F_K_next (F_K_next S 5).2 3).1 (((1 + (F_K_next S 5).1) / 2) + 1) 0 0 (Nat.lt_succ_self _) (by rw [show F_K_fillFileWithWinner S x1 = (L_K_fillFileWithWinner_27 ((Int32.toInt (1 + (F_K_next S 5).1) - Int32.toInt 0).toNat + 1) (F_K_next (F_K_next S 5).2 3).2 x1 (1 + (F_K_next S 5).1) (F_K_next (F_K_next S 5).2 3).1 (((1 + (F_K_next S 5).1) / 2) + 1) 0 0) from by rw [F_K_fillFileWithWinner]] at hq; exact hq)

def L_K_fillFileWithoutWinner_20 : Nat → SK → Int32 → Int32 → Int32 → Int32 → Int32 → SK
  | 0, S, v1, v2, v3, v4, v5 => S
  | n + 1, S, v1, v2, v3, v4, v5 =>
    if v2 ≤ v5 then
      (F_K_put S v1 v2 v4 0)
    else
      if v3 = 2 then
        (L_K_fillFileWithoutWinner_20 n S v1 v2 0 (v4 + (v3 <<< ((2 * v5) &&& 31))) (v5 + 1))
      else
        (L_K_fillFileWithoutWinner_20 n S v1 v2 (v3 + 1) (v4 + (v3 <<< ((2 * v5) &&& 31))) (v5 + 1))
set_option maxRecDepth 100000 in
set_option maxHeartbeats 4000000 in
theorem l_K_fillFileWithoutWinner_20 (G : zG) (l : Launch) (a : Nat → Nat) {p : Program} {e : Env} {s : State} {m : MethodId} {args : Array Value} {below : List Frame} {meth : Method} {c : Code} {w0 : va_W} {Post : Option Value → va_W → Prop} (C : zC p s m args meth c b_K_fillFileWithoutWinner 6 N_K G (va_A w0 s.heap.size)) (hlk : meth.locks = false) (hr : meth.sig.returnType = none) :
    ∀ (n : Nat) (S : SK) (v1 : Int32) (v2 : Int32) (v3 : Int32) (v4 : Int32) (v5 : Int32), (Int32.toInt v2 - Int32.toInt v5).toNat < n → Post (none) (wK G a (L_K_fillFileWithoutWinner_20 n S v1 v2 v3 v4 v5)) → zV p l e (zR 2 45) s m args below meth c 6 G (va_A w0 s.heap.size) (MQ below (zQ G w0 s.heap.size Post) args s 0 0 (va_A w0 s.heap.size)) 0 0 (wK G a S) 20 [(0, .ref (a 0)), (1, .int v1), (2, .int v2), (3, .int v3), (4, .int v4), (5, .int v5)] [] := by
  intro n
  induction n with
  | zero => intro S v1 v2 v3 v4 v5 h; exact absurd h (Nat.not_lt_zero _)
  | succ n ih =>
    intro S v1 v2 v3 v4 v5 hmu hq
    refine z_iload C 22 d_K_fillFileWithoutWinner_20 rfl rfl ?_
    refine z_iload_n C 23 d_K_fillFileWithoutWinner_22 rfl rfl ?_
    refine z_icmp_ge C 56 26 d_K_fillFileWithoutWinner_23 (by decide) rfl (fun c_23 => ?_) (fun c_23 => ?_)
    · refine z_aload_n C 57 d_K_fillFileWithoutWinner_56 rfl rfl ?_
      refine z_iload_n C 58 d_K_fillFileWithoutWinner_57 rfl rfl ?_
      refine z_iload_n C 59 d_K_fillFileWithoutWinner_58 rfl rfl ?_
      refine z_iload C 61 d_K_fillFileWithoutWinner_59 rfl rfl ?_
      refine z_iconst C 0 62 d_K_fillFileWithoutWinner_61 rfl (by decide) ?_
      refine z_goA C (z_V C kc_K_76 (c_K_put G l a S v1 v2 v4 0) (st := []) 0 0 rfl rfl rfl rfl (Nat.le_of_ble_eq_true rfl) ⟨⟨Nat.le_of_ble_eq_true rfl, Nat.le_of_ble_eq_true rfl⟩, Nat.le_of_ble_eq_true rfl, Nat.le_of_ble_eq_true rfl⟩ d_K_fillFileWithoutWinner_62) [] 65 rfl rfl ?_
      exact z_vret C hlk hr d_K_fillFileWithoutWinner_65 (by rw [show L_K_fillFileWithoutWinner_20 (n + 1) S v1 v2 v3 v4 v5 = (F_K_put S v1 v2 v4 0) from by rw [L_K_fillFileWithoutWinner_20, if_pos c_23]] at hq; exact hq)
    · refine z_iload C 28 d_K_fillFileWithoutWinner_26 rfl rfl ?_
      refine z_iload_n C 29 d_K_fillFileWithoutWinner_28 rfl rfl ?_
      refine z_iconst C 2 30 d_K_fillFileWithoutWinner_29 rfl (by decide) ?_
      refine z_iload C 32 d_K_fillFileWithoutWinner_30 rfl rfl ?_
      refine z_imul C 33 d_K_fillFileWithoutWinner_32 rfl ?_
      refine z_ishl C 34 d_K_fillFileWithoutWinner_33 rfl ?_
      refine z_iadd C 35 d_K_fillFileWithoutWinner_34 rfl ?_
      refine z_istore C [(4, .int (v4 + (v3 <<< ((2 * v5) &&& 31)))), (0, .ref (a 0)), (1, .int v1), (2, .int v2), (3, .int v3), (5, .int v5)] 37 d_K_fillFileWithoutWinner_35 rfl (by decide) rfl ?_
      refine z_iload_n C 38 d_K_fillFileWithoutWinner_37 rfl rfl ?_
      refine z_iconst C 2 39 d_K_fillFileWithoutWinner_38 rfl (by decide) ?_
      refine z_icmp_ne C 46 42 d_K_fillFileWithoutWinner_39 (by decide) rfl (fun c_39 => ?_) (fun c_39 => ?_)
      · refine z_iload_n C 47 d_K_fillFileWithoutWinner_46 rfl rfl ?_
        refine z_iconst C 1 48 d_K_fillFileWithoutWinner_47 rfl (by decide) ?_
        refine z_iadd C 49 d_K_fillFileWithoutWinner_48 rfl ?_
        refine z_istore_n C [(3, .int (v3 + 1)), (4, .int (v4 + (v3 <<< ((2 * v5) &&& 31)))), (0, .ref (a 0)), (1, .int v1), (2, .int v2), (5, .int v5)] 50 d_K_fillFileWithoutWinner_49 rfl (by decide) rfl ?_
        refine z_iinc C (v5 + 1) [(5, .int (v5 + 1)), (3, .int (v3 + 1)), (4, .int (v4 + (v3 <<< ((2 * v5) &&& 31)))), (0, .ref (a 0)), (1, .int v1), (2, .int v2)] 53 d_K_fillFileWithoutWinner_50 rfl (by decide) rfl rfl rfl ?_
        refine z_goto C 20 d_K_fillFileWithoutWinner_53 (by decide) ?_
        refine z_lvs [3, 4, 5, 1, 2, 0] [(0, .ref (a 0)), (1, .int v1), (2, .int v2), (3, .int (v3 + 1)), (4, .int (v4 + (v3 <<< ((2 * v5) &&& 31)))), (5, .int (v5 + 1))] rfl ?_
        exact ih S v1 v2 (v3 + 1) (v4 + (v3 <<< ((2 * v5) &&& 31))) (v5 + 1) (zdec c_23 hmu) (by rw [show L_K_fillFileWithoutWinner_20 (n + 1) S v1 v2 v3 v4 v5 = (L_K_fillFileWithoutWinner_20 n S v1 v2 (v3 + 1) (v4 + (v3 <<< ((2 * v5) &&& 31))) (v5 + 1)) from by rw [L_K_fillFileWithoutWinner_20, if_neg c_23, if_neg c_39]] at hq; exact hq)
      · refine z_iconst C 0 43 d_K_fillFileWithoutWinner_42 rfl (by decide) ?_
        refine z_goto C 49 d_K_fillFileWithoutWinner_43 (by decide) ?_
        refine z_istore_n C [(3, .int 0), (4, .int (v4 + (v3 <<< ((2 * v5) &&& 31)))), (0, .ref (a 0)), (1, .int v1), (2, .int v2), (5, .int v5)] 50 d_K_fillFileWithoutWinner_49 rfl (by decide) rfl ?_
        refine z_iinc C (v5 + 1) [(5, .int (v5 + 1)), (3, .int 0), (4, .int (v4 + (v3 <<< ((2 * v5) &&& 31)))), (0, .ref (a 0)), (1, .int v1), (2, .int v2)] 53 d_K_fillFileWithoutWinner_50 rfl (by decide) rfl rfl rfl ?_
        refine z_goto C 20 d_K_fillFileWithoutWinner_53 (by decide) ?_
        refine z_lvs [3, 4, 5, 1, 2, 0] [(0, .ref (a 0)), (1, .int v1), (2, .int v2), (3, .int 0), (4, .int (v4 + (v3 <<< ((2 * v5) &&& 31)))), (5, .int (v5 + 1))] rfl ?_
        exact ih S v1 v2 0 (v4 + (v3 <<< ((2 * v5) &&& 31))) (v5 + 1) (zdec c_23 hmu) (by rw [show L_K_fillFileWithoutWinner_20 (n + 1) S v1 v2 v3 v4 v5 = (L_K_fillFileWithoutWinner_20 n S v1 v2 0 (v4 + (v3 <<< ((2 * v5) &&& 31))) (v5 + 1)) from by rw [L_K_fillFileWithoutWinner_20, if_neg c_23, if_pos c_39]] at hq; exact hq)
def F_K_fillFileWithoutWinner (S : SK) (x1 : Int32) : SK :=
  (L_K_fillFileWithoutWinner_20 ((Int32.toInt (2 + (F_K_next S 4).1) - Int32.toInt 0).toNat + 1) (F_K_next (F_K_next S 4).2 3).2 x1 (2 + (F_K_next S 4).1) (F_K_next (F_K_next S 4).2 3).1 0 0)
set_option maxRecDepth 100000 in
set_option maxHeartbeats 4000000 in
theorem c_K_fillFileWithoutWinner (G : zG) (l : Launch) (a : Nat → Nat) (S : SK) (x1 : Int32)  : zM G l y_K_fillFileWithoutWinner b_K_fillFileWithoutWinner 6 (none) (zR 2 45) [.ref (a 0), .int x1] (wK G a S) (fun r1 w1 => r1 = none ∧ w1 = wK G a (F_K_fillFileWithoutWinner S x1)) := by
  generalize hPost : (fun (r1 : Option Value) (w1 : va_W) => r1 = none ∧ w1 = wK G a (F_K_fillFileWithoutWinner S x1)) = Post
  have hq : Post (none) (wK G a (F_K_fillFileWithoutWinner S x1)) := by rw [← hPost]; exact ⟨rfl, rfl⟩
  clear hPost
  refine zM_of (by decide) (Nat.le_of_ble_eq_true rfl) ?_
  intro p e s m args below meth c C hlk hr hin
  refine z_iconst C 2 1 d_K_fillFileWithoutWinner_0 rfl (by decide) ?_
  refine z_aload_n C 2 d_K_fillFileWithoutWinner_1 rfl rfl ?_
  refine z_iconst C 4 3 d_K_fillFileWithoutWinner_2 rfl (by decide) ?_
  refine z_goA C (z_V C kc_K_72 (c_K_next G l a S 4) (st := [.int 2]) 0 0 rfl rfl rfl rfl (Nat.le_of_ble_eq_true rfl) ⟨⟨Nat.le_of_ble_eq_true rfl, Nat.le_of_ble_eq_true rfl⟩, Nat.le_of_ble_eq_true rfl, Nat.le_of_ble_eq_true rfl⟩ d_K_fillFileWithoutWinner_3) [.int (F_K_next S 4).1, .int 2] 6 rfl rfl ?_
  refine z_iadd C 7 d_K_fillFileWithoutWinner_6 rfl ?_
  refine z_istore_n C [(2, .int (2 + (F_K_next S 4).1)), (0, .ref (a 0)), (1, .int x1)] 8 d_K_fillFileWithoutWinner_7 rfl (by decide) rfl ?_
  refine z_aload_n C 9 d_K_fillFileWithoutWinner_8 rfl rfl ?_
  refine z_iconst C 3 10 d_K_fillFileWithoutWinner_9 rfl (by decide) ?_
  refine z_goA C (z_V C kc_K_72 (c_K_next G l a (F_K_next S 4).2 3) (st := []) 0 0 rfl rfl rfl rfl (Nat.le_of_ble_eq_true rfl) ⟨⟨Nat.le_of_ble_eq_true rfl, Nat.le_of_ble_eq_true rfl⟩, Nat.le_of_ble_eq_true rfl, Nat.le_of_ble_eq_true rfl⟩ d_K_fillFileWithoutWinner_10) [.int (F_K_next (F_K_next S 4).2 3).1] 13 rfl rfl ?_
  refine z_istore_n C [(3, .int (F_K_next (F_K_next S 4).2 3).1), (2, .int (2 + (F_K_next S 4).1)), (0, .ref (a 0)), (1, .int x1)] 14 d_K_fillFileWithoutWinner_13 rfl (by decide) rfl ?_
  refine z_iconst C 0 15 d_K_fillFileWithoutWinner_14 rfl (by decide) ?_
  refine z_istore C [(4, .int 0), (3, .int (F_K_next (F_K_next S 4).2 3).1), (2, .int (2 + (F_K_next S 4).1)), (0, .ref (a 0)), (1, .int x1)] 17 d_K_fillFileWithoutWinner_15 rfl (by decide) rfl ?_
  refine z_iconst C 0 18 d_K_fillFileWithoutWinner_17 rfl (by decide) ?_
  refine z_istore C [(5, .int 0), (4, .int 0), (3, .int (F_K_next (F_K_next S 4).2 3).1), (2, .int (2 + (F_K_next S 4).1)), (0, .ref (a 0)), (1, .int x1)] 20 d_K_fillFileWithoutWinner_18 rfl (by decide) rfl ?_
  refine z_lvs [4, 5, 3, 2, 1, 0] [(0, .ref (a 0)), (1, .int x1), (2, .int (2 + (F_K_next S 4).1)), (3, .int (F_K_next (F_K_next S 4).2 3).1), (4, .int 0), (5, .int 0)] rfl ?_
  exact l_K_fillFileWithoutWinner_20 G l a C hlk hr _ (F_K_next (F_K_next S 4).2 3).2 x1 (2 + (F_K_next S 4).1) (F_K_next (F_K_next S 4).2 3).1 0 0 (Nat.lt_succ_self _) (by rw [show F_K_fillFileWithoutWinner S x1 = (L_K_fillFileWithoutWinner_20 ((Int32.toInt (2 + (F_K_next S 4).1) - Int32.toInt 0).toNat + 1) (F_K_next (F_K_next S 4).2 3).2 x1 (2 + (F_K_next S 4).1) (F_K_next (F_K_next S 4).2 3).1 0 0) from by rw [F_K_fillFileWithoutWinner]] at hq; exact hq)

def F_K_fillFile (S : SK) (x1 : Int32) : SK :=
  if (x1 - x1 / 2 * 2) = 0 then
    (F_K_fillFileWithWinner S x1)
  else
    (F_K_fillFileWithoutWinner S x1)
set_option maxRecDepth 100000 in
set_option maxHeartbeats 4000000 in
theorem c_K_fillFile (G : zG) (l : Launch) (a : Nat → Nat) (S : SK) (x1 : Int32)  : zM G l y_K_fillFile b_K_fillFile 2 (none) (zR 3 72) [.ref (a 0), .int x1] (wK G a S) (fun r1 w1 => r1 = none ∧ w1 = wK G a (F_K_fillFile S x1)) := by
  generalize hPost : (fun (r1 : Option Value) (w1 : va_W) => r1 = none ∧ w1 = wK G a (F_K_fillFile S x1)) = Post
  have hq : Post (none) (wK G a (F_K_fillFile S x1)) := by rw [← hPost]; exact ⟨rfl, rfl⟩
  clear hPost
  refine zM_of (by decide) (Nat.le_of_ble_eq_true rfl) ?_
  intro p e s m args below meth c C hlk hr hin
  refine z_iload_n C 1 d_K_fillFile_0 rfl rfl ?_
  refine z_iconst C 2 2 d_K_fillFile_1 rfl (by decide) ?_
  refine z_irem C 3 d_K_fillFile_2 rfl (by decide) ?_
  refine z_if_ne C 14 6 d_K_fillFile_3 (by decide) rfl (fun c_3 => ?_) (fun c_3 => ?_)
  · refine z_aload_n C 15 d_K_fillFile_14 rfl rfl ?_
    refine z_iload_n C 16 d_K_fillFile_15 rfl rfl ?_
    refine z_goA C (z_V C kc_K_96 (c_K_fillFileWithoutWinner G l a S x1) (st := []) 0 0 rfl rfl rfl rfl (Nat.le_of_ble_eq_true rfl) ⟨⟨Nat.le_of_ble_eq_true rfl, Nat.le_of_ble_eq_true rfl⟩, Nat.le_of_ble_eq_true rfl, Nat.le_of_ble_eq_true rfl⟩ d_K_fillFile_16) [] 19 rfl rfl ?_
    exact z_vret C hlk hr d_K_fillFile_19 (by rw [show F_K_fillFile S x1 = (F_K_fillFileWithoutWinner S x1) from by rw [F_K_fillFile, if_neg c_3]] at hq; exact hq)
  · refine z_aload_n C 7 d_K_fillFile_6 rfl rfl ?_
    refine z_iload_n C 8 d_K_fillFile_7 rfl rfl ?_
    refine z_goA C (z_V C kc_K_93 (c_K_fillFileWithWinner G l a S x1) (st := []) 0 0 rfl rfl rfl rfl (Nat.le_of_ble_eq_true rfl) ⟨⟨Nat.le_of_ble_eq_true rfl, Nat.le_of_ble_eq_true rfl⟩, Nat.le_of_ble_eq_true rfl, Nat.le_of_ble_eq_true rfl⟩ d_K_fillFile_8) [] 11 rfl rfl ?_
    refine z_goto C 19 d_K_fillFile_11 (by decide) ?_
    exact z_vret C hlk hr d_K_fillFile_19 (by rw [show F_K_fillFile S x1 = (F_K_fillFileWithWinner S x1) from by rw [F_K_fillFile, if_pos c_3]] at hq; exact hq)

def F_K_fillPattern (S : SK) (x1 : Int32) : SK :=
  if 1 ≤ (1 + (F_K_next (F_K_next S 1000).2 60).1) then
    (F_K_put (F_K_next (F_K_next (F_K_next S 1000).2 60).2 (((1500 - (F_K_next S 1000).1) / (1 + (F_K_next (F_K_next S 1000).2 60).1)) + 1)).2 x1 (F_K_next S 1000).1 (1 + (F_K_next (F_K_next S 1000).2 60).1) (1 + (F_K_next (F_K_next (F_K_next S 1000).2 60).2 (((1500 - (F_K_next S 1000).1) / (1 + (F_K_next (F_K_next S 1000).2 60).1)) + 1)).1))
  else
    (F_K_put (F_K_next (F_K_next (F_K_next S 1000).2 60).2 (0 + 1)).2 x1 (F_K_next S 1000).1 (1 + (F_K_next (F_K_next S 1000).2 60).1) (1 + (F_K_next (F_K_next (F_K_next S 1000).2 60).2 (0 + 1)).1))
set_option maxRecDepth 100000 in
set_option maxHeartbeats 4000000 in
theorem c_K_fillPattern (G : zG) (l : Launch) (a : Nat → Nat) (S : SK) (x1 : Int32)  : zM G l y_K_fillPattern b_K_fillPattern 5 (none) (zR 2 45) [.ref (a 0), .int x1] (wK G a S) (fun r1 w1 => r1 = none ∧ w1 = wK G a (F_K_fillPattern S x1)) := by
  generalize hPost : (fun (r1 : Option Value) (w1 : va_W) => r1 = none ∧ w1 = wK G a (F_K_fillPattern S x1)) = Post
  have hq : Post (none) (wK G a (F_K_fillPattern S x1)) := by rw [← hPost]; exact ⟨rfl, rfl⟩
  clear hPost
  refine zM_of (by decide) (Nat.le_of_ble_eq_true rfl) ?_
  intro p e s m args below meth c C hlk hr hin
  refine z_aload_n C 1 d_K_fillPattern_0 rfl rfl ?_
  refine z_sipush C 1000 4 d_K_fillPattern_1 rfl (by decide) ?_
  refine z_goA C (z_V C kc_K_72 (c_K_next G l a S 1000) (st := []) 0 0 rfl rfl rfl rfl (Nat.le_of_ble_eq_true rfl) ⟨⟨Nat.le_of_ble_eq_true rfl, Nat.le_of_ble_eq_true rfl⟩, Nat.le_of_ble_eq_true rfl, Nat.le_of_ble_eq_true rfl⟩ d_K_fillPattern_4) [.int (F_K_next S 1000).1] 7 rfl rfl ?_
  refine z_istore_n C [(2, .int (F_K_next S 1000).1), (0, .ref (a 0)), (1, .int x1)] 8 d_K_fillPattern_7 rfl (by decide) rfl ?_
  refine z_iconst C 1 9 d_K_fillPattern_8 rfl (by decide) ?_
  refine z_aload_n C 10 d_K_fillPattern_9 rfl rfl ?_
  refine z_bipush C 60 12 d_K_fillPattern_10 rfl (by decide) ?_
  refine z_goA C (z_V C kc_K_72 (c_K_next G l a (F_K_next S 1000).2 60) (st := [.int 1]) 0 0 rfl rfl rfl rfl (Nat.le_of_ble_eq_true rfl) ⟨⟨Nat.le_of_ble_eq_true rfl, Nat.le_of_ble_eq_true rfl⟩, Nat.le_of_ble_eq_true rfl, Nat.le_of_ble_eq_true rfl⟩ d_K_fillPattern_12) [.int (F_K_next (F_K_next S 1000).2 60).1, .int 1] 15 rfl rfl ?_
  refine z_iadd C 16 d_K_fillPattern_15 rfl ?_
  refine z_istore_n C [(3, .int (1 + (F_K_next (F_K_next S 1000).2 60).1)), (2, .int (F_K_next S 1000).1), (0, .ref (a 0)), (1, .int x1)] 17 d_K_fillPattern_16 rfl (by decide) rfl ?_
  refine z_iload_n C 18 d_K_fillPattern_17 rfl rfl ?_
  refine z_iconst C 1 19 d_K_fillPattern_18 rfl (by decide) ?_
  refine z_icmp_ge C 26 22 d_K_fillPattern_19 (by decide) rfl (fun c_19 => ?_) (fun c_19 => ?_)
  · refine z_sipush C 1500 29 d_K_fillPattern_26 rfl (by decide) ?_
    refine z_iload_n C 30 d_K_fillPattern_29 rfl rfl ?_
    refine z_isub C 31 d_K_fillPattern_30 rfl ?_
    refine z_iload_n C 32 d_K_fillPattern_31 rfl rfl ?_
    refine z_idiv C 33 d_K_fillPattern_32 rfl (kx_ge1 c_19) ?_
    refine z_istore C [(4, .int ((1500 - (F_K_next S 1000).1) / (1 + (F_K_next (F_K_next S 1000).2 60).1))), (3, .int (1 + (F_K_next (F_K_next S 1000).2 60).1)), (2, .int (F_K_next S 1000).1), (0, .ref (a 0)), (1, .int x1)] 35 d_K_fillPattern_33 rfl (by decide) rfl ?_
    refine z_aload_n C 36 d_K_fillPattern_35 rfl rfl ?_
    refine z_iload_n C 37 d_K_fillPattern_36 rfl rfl ?_
    refine z_iload_n C 38 d_K_fillPattern_37 rfl rfl ?_
    refine z_iload_n C 39 d_K_fillPattern_38 rfl rfl ?_
    refine z_iconst C 1 40 d_K_fillPattern_39 rfl (by decide) ?_
    refine z_aload_n C 41 d_K_fillPattern_40 rfl rfl ?_
    refine z_iload C 43 d_K_fillPattern_41 rfl rfl ?_
    refine z_iconst C 1 44 d_K_fillPattern_43 rfl (by decide) ?_
    refine z_iadd C 45 d_K_fillPattern_44 rfl ?_
    refine z_goA C (z_V C kc_K_72 (c_K_next G l a (F_K_next (F_K_next S 1000).2 60).2 (((1500 - (F_K_next S 1000).1) / (1 + (F_K_next (F_K_next S 1000).2 60).1)) + 1)) (st := [.int 1, .int (1 + (F_K_next (F_K_next S 1000).2 60).1), .int (F_K_next S 1000).1, .int x1, .ref (a 0)]) 0 0 rfl rfl rfl rfl (Nat.le_of_ble_eq_true rfl) ⟨⟨Nat.le_of_ble_eq_true rfl, Nat.le_of_ble_eq_true rfl⟩, Nat.le_of_ble_eq_true rfl, Nat.le_of_ble_eq_true rfl⟩ d_K_fillPattern_45) [.int (F_K_next (F_K_next (F_K_next S 1000).2 60).2 (((1500 - (F_K_next S 1000).1) / (1 + (F_K_next (F_K_next S 1000).2 60).1)) + 1)).1, .int 1, .int (1 + (F_K_next (F_K_next S 1000).2 60).1), .int (F_K_next S 1000).1, .int x1, .ref (a 0)] 48 rfl rfl ?_
    refine z_iadd C 49 d_K_fillPattern_48 rfl ?_
    refine z_goA C (z_V C kc_K_76 (c_K_put G l a (F_K_next (F_K_next (F_K_next S 1000).2 60).2 (((1500 - (F_K_next S 1000).1) / (1 + (F_K_next (F_K_next S 1000).2 60).1)) + 1)).2 x1 (F_K_next S 1000).1 (1 + (F_K_next (F_K_next S 1000).2 60).1) (1 + (F_K_next (F_K_next (F_K_next S 1000).2 60).2 (((1500 - (F_K_next S 1000).1) / (1 + (F_K_next (F_K_next S 1000).2 60).1)) + 1)).1)) (st := []) 0 0 rfl rfl rfl rfl (Nat.le_of_ble_eq_true rfl) ⟨⟨Nat.le_of_ble_eq_true rfl, Nat.le_of_ble_eq_true rfl⟩, Nat.le_of_ble_eq_true rfl, Nat.le_of_ble_eq_true rfl⟩ d_K_fillPattern_49) [] 52 rfl rfl ?_
    exact z_vret C hlk hr d_K_fillPattern_52 (by rw [show F_K_fillPattern S x1 = (F_K_put (F_K_next (F_K_next (F_K_next S 1000).2 60).2 (((1500 - (F_K_next S 1000).1) / (1 + (F_K_next (F_K_next S 1000).2 60).1)) + 1)).2 x1 (F_K_next S 1000).1 (1 + (F_K_next (F_K_next S 1000).2 60).1) (1 + (F_K_next (F_K_next (F_K_next S 1000).2 60).2 (((1500 - (F_K_next S 1000).1) / (1 + (F_K_next (F_K_next S 1000).2 60).1)) + 1)).1)) from by rw [F_K_fillPattern, if_pos c_19]] at hq; exact hq)
  · refine z_iconst C 0 23 d_K_fillPattern_22 rfl (by decide) ?_
    refine z_goto C 33 d_K_fillPattern_23 (by decide) ?_
    refine z_istore C [(4, .int 0), (3, .int (1 + (F_K_next (F_K_next S 1000).2 60).1)), (2, .int (F_K_next S 1000).1), (0, .ref (a 0)), (1, .int x1)] 35 d_K_fillPattern_33 rfl (by decide) rfl ?_
    refine z_aload_n C 36 d_K_fillPattern_35 rfl rfl ?_
    refine z_iload_n C 37 d_K_fillPattern_36 rfl rfl ?_
    refine z_iload_n C 38 d_K_fillPattern_37 rfl rfl ?_
    refine z_iload_n C 39 d_K_fillPattern_38 rfl rfl ?_
    refine z_iconst C 1 40 d_K_fillPattern_39 rfl (by decide) ?_
    refine z_aload_n C 41 d_K_fillPattern_40 rfl rfl ?_
    refine z_iload C 43 d_K_fillPattern_41 rfl rfl ?_
    refine z_iconst C 1 44 d_K_fillPattern_43 rfl (by decide) ?_
    refine z_iadd C 45 d_K_fillPattern_44 rfl ?_
    refine z_goA C (z_V C kc_K_72 (c_K_next G l a (F_K_next (F_K_next S 1000).2 60).2 (0 + 1)) (st := [.int 1, .int (1 + (F_K_next (F_K_next S 1000).2 60).1), .int (F_K_next S 1000).1, .int x1, .ref (a 0)]) 0 0 rfl rfl rfl rfl (Nat.le_of_ble_eq_true rfl) ⟨⟨Nat.le_of_ble_eq_true rfl, Nat.le_of_ble_eq_true rfl⟩, Nat.le_of_ble_eq_true rfl, Nat.le_of_ble_eq_true rfl⟩ d_K_fillPattern_45) [.int (F_K_next (F_K_next (F_K_next S 1000).2 60).2 (0 + 1)).1, .int 1, .int (1 + (F_K_next (F_K_next S 1000).2 60).1), .int (F_K_next S 1000).1, .int x1, .ref (a 0)] 48 rfl rfl ?_
    refine z_iadd C 49 d_K_fillPattern_48 rfl ?_
    refine z_goA C (z_V C kc_K_76 (c_K_put G l a (F_K_next (F_K_next (F_K_next S 1000).2 60).2 (0 + 1)).2 x1 (F_K_next S 1000).1 (1 + (F_K_next (F_K_next S 1000).2 60).1) (1 + (F_K_next (F_K_next (F_K_next S 1000).2 60).2 (0 + 1)).1)) (st := []) 0 0 rfl rfl rfl rfl (Nat.le_of_ble_eq_true rfl) ⟨⟨Nat.le_of_ble_eq_true rfl, Nat.le_of_ble_eq_true rfl⟩, Nat.le_of_ble_eq_true rfl, Nat.le_of_ble_eq_true rfl⟩ d_K_fillPattern_49) [] 52 rfl rfl ?_
    exact z_vret C hlk hr d_K_fillPattern_52 (by rw [show F_K_fillPattern S x1 = (F_K_put (F_K_next (F_K_next (F_K_next S 1000).2 60).2 (0 + 1)).2 x1 (F_K_next S 1000).1 (1 + (F_K_next (F_K_next S 1000).2 60).1) (1 + (F_K_next (F_K_next (F_K_next S 1000).2 60).2 (0 + 1)).1)) from by rw [F_K_fillPattern, if_neg c_19]] at hq; exact hq)

def F_K_fillLine (S : SK) (x1 : Int32) : SK :=
  if (F_K_next (F_K_next (F_K_next S 9).2 1000).2 4).1 = 0 then
    (F_K_put (F_K_next (F_K_next (F_K_next (F_K_next S 9).2 1000).2 4).2 3).2 x1 (1 + (F_K_next S 9).1) (F_K_next (F_K_next S 9).2 1000).1 (1 + (F_K_next (F_K_next (F_K_next (F_K_next S 9).2 1000).2 4).2 3).1))
  else
    (F_K_put (F_K_next (F_K_next (F_K_next S 9).2 1000).2 4).2 x1 (1 + (F_K_next S 9).1) (F_K_next (F_K_next S 9).2 1000).1 0)
set_option maxRecDepth 100000 in
set_option maxHeartbeats 4000000 in
theorem c_K_fillLine (G : zG) (l : Launch) (a : Nat → Nat) (S : SK) (x1 : Int32)  : zM G l y_K_fillLine b_K_fillLine 5 (none) (zR 2 45) [.ref (a 0), .int x1] (wK G a S) (fun r1 w1 => r1 = none ∧ w1 = wK G a (F_K_fillLine S x1)) := by
  generalize hPost : (fun (r1 : Option Value) (w1 : va_W) => r1 = none ∧ w1 = wK G a (F_K_fillLine S x1)) = Post
  have hq : Post (none) (wK G a (F_K_fillLine S x1)) := by rw [← hPost]; exact ⟨rfl, rfl⟩
  clear hPost
  refine zM_of (by decide) (Nat.le_of_ble_eq_true rfl) ?_
  intro p e s m args below meth c C hlk hr hin
  refine z_iconst C 1 1 d_K_fillLine_0 rfl (by decide) ?_
  refine z_aload_n C 2 d_K_fillLine_1 rfl rfl ?_
  refine z_bipush C 9 4 d_K_fillLine_2 rfl (by decide) ?_
  refine z_goA C (z_V C kc_K_72 (c_K_next G l a S 9) (st := [.int 1]) 0 0 rfl rfl rfl rfl (Nat.le_of_ble_eq_true rfl) ⟨⟨Nat.le_of_ble_eq_true rfl, Nat.le_of_ble_eq_true rfl⟩, Nat.le_of_ble_eq_true rfl, Nat.le_of_ble_eq_true rfl⟩ d_K_fillLine_4) [.int (F_K_next S 9).1, .int 1] 7 rfl rfl ?_
  refine z_iadd C 8 d_K_fillLine_7 rfl ?_
  refine z_istore_n C [(2, .int (1 + (F_K_next S 9).1)), (0, .ref (a 0)), (1, .int x1)] 9 d_K_fillLine_8 rfl (by decide) rfl ?_
  refine z_aload_n C 10 d_K_fillLine_9 rfl rfl ?_
  refine z_sipush C 1000 13 d_K_fillLine_10 rfl (by decide) ?_
  refine z_goA C (z_V C kc_K_72 (c_K_next G l a (F_K_next S 9).2 1000) (st := []) 0 0 rfl rfl rfl rfl (Nat.le_of_ble_eq_true rfl) ⟨⟨Nat.le_of_ble_eq_true rfl, Nat.le_of_ble_eq_true rfl⟩, Nat.le_of_ble_eq_true rfl, Nat.le_of_ble_eq_true rfl⟩ d_K_fillLine_13) [.int (F_K_next (F_K_next S 9).2 1000).1] 16 rfl rfl ?_
  refine z_istore_n C [(3, .int (F_K_next (F_K_next S 9).2 1000).1), (2, .int (1 + (F_K_next S 9).1)), (0, .ref (a 0)), (1, .int x1)] 17 d_K_fillLine_16 rfl (by decide) rfl ?_
  refine z_aload_n C 18 d_K_fillLine_17 rfl rfl ?_
  refine z_iconst C 4 19 d_K_fillLine_18 rfl (by decide) ?_
  refine z_goA C (z_V C kc_K_72 (c_K_next G l a (F_K_next (F_K_next S 9).2 1000).2 4) (st := []) 0 0 rfl rfl rfl rfl (Nat.le_of_ble_eq_true rfl) ⟨⟨Nat.le_of_ble_eq_true rfl, Nat.le_of_ble_eq_true rfl⟩, Nat.le_of_ble_eq_true rfl, Nat.le_of_ble_eq_true rfl⟩ d_K_fillLine_19) [.int (F_K_next (F_K_next (F_K_next S 9).2 1000).2 4).1] 22 rfl rfl ?_
  refine z_if_ne C 35 25 d_K_fillLine_22 (by decide) rfl (fun c_22 => ?_) (fun c_22 => ?_)
  · refine z_iconst C 0 36 d_K_fillLine_35 rfl (by decide) ?_
    refine z_istore C [(4, .int 0), (3, .int (F_K_next (F_K_next S 9).2 1000).1), (2, .int (1 + (F_K_next S 9).1)), (0, .ref (a 0)), (1, .int x1)] 38 d_K_fillLine_36 rfl (by decide) rfl ?_
    refine z_aload_n C 39 d_K_fillLine_38 rfl rfl ?_
    refine z_iload_n C 40 d_K_fillLine_39 rfl rfl ?_
    refine z_iload_n C 41 d_K_fillLine_40 rfl rfl ?_
    refine z_iload_n C 42 d_K_fillLine_41 rfl rfl ?_
    refine z_iload C 44 d_K_fillLine_42 rfl rfl ?_
    refine z_goA C (z_V C kc_K_76 (c_K_put G l a (F_K_next (F_K_next (F_K_next S 9).2 1000).2 4).2 x1 (1 + (F_K_next S 9).1) (F_K_next (F_K_next S 9).2 1000).1 0) (st := []) 0 0 rfl rfl rfl rfl (Nat.le_of_ble_eq_true rfl) ⟨⟨Nat.le_of_ble_eq_true rfl, Nat.le_of_ble_eq_true rfl⟩, Nat.le_of_ble_eq_true rfl, Nat.le_of_ble_eq_true rfl⟩ d_K_fillLine_44) [] 47 rfl rfl ?_
    exact z_vret C hlk hr d_K_fillLine_47 (by rw [show F_K_fillLine S x1 = (F_K_put (F_K_next (F_K_next (F_K_next S 9).2 1000).2 4).2 x1 (1 + (F_K_next S 9).1) (F_K_next (F_K_next S 9).2 1000).1 0) from by rw [F_K_fillLine, if_neg c_22]] at hq; exact hq)
  · refine z_iconst C 1 26 d_K_fillLine_25 rfl (by decide) ?_
    refine z_aload_n C 27 d_K_fillLine_26 rfl rfl ?_
    refine z_iconst C 3 28 d_K_fillLine_27 rfl (by decide) ?_
    refine z_goA C (z_V C kc_K_72 (c_K_next G l a (F_K_next (F_K_next (F_K_next S 9).2 1000).2 4).2 3) (st := [.int 1]) 0 0 rfl rfl rfl rfl (Nat.le_of_ble_eq_true rfl) ⟨⟨Nat.le_of_ble_eq_true rfl, Nat.le_of_ble_eq_true rfl⟩, Nat.le_of_ble_eq_true rfl, Nat.le_of_ble_eq_true rfl⟩ d_K_fillLine_28) [.int (F_K_next (F_K_next (F_K_next (F_K_next S 9).2 1000).2 4).2 3).1, .int 1] 31 rfl rfl ?_
    refine z_iadd C 32 d_K_fillLine_31 rfl ?_
    refine z_goto C 36 d_K_fillLine_32 (by decide) ?_
    refine z_istore C [(4, .int (1 + (F_K_next (F_K_next (F_K_next (F_K_next S 9).2 1000).2 4).2 3).1)), (3, .int (F_K_next (F_K_next S 9).2 1000).1), (2, .int (1 + (F_K_next S 9).1)), (0, .ref (a 0)), (1, .int x1)] 38 d_K_fillLine_36 rfl (by decide) rfl ?_
    refine z_aload_n C 39 d_K_fillLine_38 rfl rfl ?_
    refine z_iload_n C 40 d_K_fillLine_39 rfl rfl ?_
    refine z_iload_n C 41 d_K_fillLine_40 rfl rfl ?_
    refine z_iload_n C 42 d_K_fillLine_41 rfl rfl ?_
    refine z_iload C 44 d_K_fillLine_42 rfl rfl ?_
    refine z_goA C (z_V C kc_K_76 (c_K_put G l a (F_K_next (F_K_next (F_K_next (F_K_next S 9).2 1000).2 4).2 3).2 x1 (1 + (F_K_next S 9).1) (F_K_next (F_K_next S 9).2 1000).1 (1 + (F_K_next (F_K_next (F_K_next (F_K_next S 9).2 1000).2 4).2 3).1)) (st := []) 0 0 rfl rfl rfl rfl (Nat.le_of_ble_eq_true rfl) ⟨⟨Nat.le_of_ble_eq_true rfl, Nat.le_of_ble_eq_true rfl⟩, Nat.le_of_ble_eq_true rfl, Nat.le_of_ble_eq_true rfl⟩ d_K_fillLine_44) [] 47 rfl rfl ?_
    exact z_vret C hlk hr d_K_fillLine_47 (by rw [show F_K_fillLine S x1 = (F_K_put (F_K_next (F_K_next (F_K_next (F_K_next S 9).2 1000).2 4).2 3).2 x1 (1 + (F_K_next S 9).1) (F_K_next (F_K_next S 9).2 1000).1 (1 + (F_K_next (F_K_next (F_K_next (F_K_next S 9).2 1000).2 4).2 3).1)) from by rw [F_K_fillLine, if_pos c_22]] at hq; exact hq)

def F_K_fillReader (S : SK) (x1 : Int32) : SK :=
  if x1 ≤ 0 then
    (F_K_put (F_K_next (F_K_next S 5).2 10).2 x1 (F_K_next S 5).1 (-1) ((100 + (10 * x1)) + (F_K_next (F_K_next S 5).2 10).1))
  else
    if (F_K_next (F_K_next S 5).2 3).1 = 0 then
      if (F_K_next (F_K_next (F_K_next S 5).2 3).2 x1).1 = (-1) then
        (F_K_put (F_K_next (F_K_next (F_K_next (F_K_next S 5).2 3).2 x1).2 10).2 x1 (F_K_next S 5).1 (F_K_next (F_K_next (F_K_next S 5).2 3).2 x1).1 ((100 + (10 * x1)) + (F_K_next (F_K_next (F_K_next (F_K_next S 5).2 3).2 x1).2 10).1))
      else
        if (F_K_number (F_K_next (F_K_next (F_K_next S 5).2 3).2 x1).2 (F_K_next (F_K_next (F_K_next S 5).2 3).2 x1).1 1) = (-1) then
          (F_K_put (F_K_next (F_K_next (F_K_next (F_K_next S 5).2 3).2 x1).2 10).2 x1 (F_K_next S 5).1 (F_K_next (F_K_next (F_K_next S 5).2 3).2 x1).1 ((100 + (10 * x1)) + (F_K_next (F_K_next (F_K_next (F_K_next S 5).2 3).2 x1).2 10).1))
        else
          (F_K_put (F_K_next (F_K_next (F_K_next (F_K_next S 5).2 3).2 x1).2 10).2 x1 (F_K_next S 5).1 (-1) ((100 + (10 * x1)) + (F_K_next (F_K_next (F_K_next (F_K_next S 5).2 3).2 x1).2 10).1))
    else
      (F_K_put (F_K_next (F_K_next (F_K_next S 5).2 3).2 10).2 x1 (F_K_next S 5).1 (-1) ((100 + (10 * x1)) + (F_K_next (F_K_next (F_K_next S 5).2 3).2 10).1))
set_option maxRecDepth 100000 in
set_option maxHeartbeats 4000000 in
theorem c_K_fillReader (G : zG) (l : Launch) (a : Nat → Nat) (S : SK) (x1 : Int32)  : zM G l y_K_fillReader b_K_fillReader 4 (none) (zR 2 45) [.ref (a 0), .int x1] (wK G a S) (fun r1 w1 => r1 = none ∧ w1 = wK G a (F_K_fillReader S x1)) := by
  generalize hPost : (fun (r1 : Option Value) (w1 : va_W) => r1 = none ∧ w1 = wK G a (F_K_fillReader S x1)) = Post
  have hq : Post (none) (wK G a (F_K_fillReader S x1)) := by rw [← hPost]; exact ⟨rfl, rfl⟩
  clear hPost
  refine zM_of (by decide) (Nat.le_of_ble_eq_true rfl) ?_
  intro p e s m args below meth c C hlk hr hin
  refine z_aload_n C 1 d_K_fillReader_0 rfl rfl ?_
  refine z_iconst C 5 2 d_K_fillReader_1 rfl (by decide) ?_
  refine z_goA C (z_V C kc_K_72 (c_K_next G l a S 5) (st := []) 0 0 rfl rfl rfl rfl (Nat.le_of_ble_eq_true rfl) ⟨⟨Nat.le_of_ble_eq_true rfl, Nat.le_of_ble_eq_true rfl⟩, Nat.le_of_ble_eq_true rfl, Nat.le_of_ble_eq_true rfl⟩ d_K_fillReader_2) [.int (F_K_next S 5).1] 5 rfl rfl ?_
  refine z_istore_n C [(2, .int (F_K_next S 5).1), (0, .ref (a 0)), (1, .int x1)] 6 d_K_fillReader_5 rfl (by decide) rfl ?_
  refine z_iload_n C 7 d_K_fillReader_6 rfl rfl ?_
  refine z_if_le C 26 10 d_K_fillReader_7 (by decide) rfl (fun c_7 => ?_) (fun c_7 => ?_)
  · refine z_iconst C (-1) 27 d_K_fillReader_26 rfl (by decide) ?_
    refine z_istore_n C [(3, .int (-1)), (2, .int (F_K_next S 5).1), (0, .ref (a 0)), (1, .int x1)] 28 d_K_fillReader_27 rfl (by decide) rfl ?_
    refine z_iload_n C 29 d_K_fillReader_28 rfl rfl ?_
    refine z_iconst C (-1) 30 d_K_fillReader_29 rfl (by decide) ?_
    refine z_icmp_eq C 45 33 d_K_fillReader_30 (by decide) rfl (fun c_30 => ?_) (fun c_30 => ?_)
    · refine z_aload_n C 46 d_K_fillReader_45 rfl rfl ?_
      refine z_iload_n C 47 d_K_fillReader_46 rfl rfl ?_
      refine z_iload_n C 48 d_K_fillReader_47 rfl rfl ?_
      refine z_iload_n C 49 d_K_fillReader_48 rfl rfl ?_
      refine z_bipush C 100 51 d_K_fillReader_49 rfl (by decide) ?_
      refine z_bipush C 10 53 d_K_fillReader_51 rfl (by decide) ?_
      refine z_iload_n C 54 d_K_fillReader_53 rfl rfl ?_
      refine z_imul C 55 d_K_fillReader_54 rfl ?_
      refine z_iadd C 56 d_K_fillReader_55 rfl ?_
      refine z_aload_n C 57 d_K_fillReader_56 rfl rfl ?_
      refine z_bipush C 10 59 d_K_fillReader_57 rfl (by decide) ?_
      refine z_goA C (z_V C kc_K_72 (c_K_next G l a (F_K_next S 5).2 10) (st := [.int (100 + (10 * x1)), .int (-1), .int (F_K_next S 5).1, .int x1, .ref (a 0)]) 0 0 rfl rfl rfl rfl (Nat.le_of_ble_eq_true rfl) ⟨⟨Nat.le_of_ble_eq_true rfl, Nat.le_of_ble_eq_true rfl⟩, Nat.le_of_ble_eq_true rfl, Nat.le_of_ble_eq_true rfl⟩ d_K_fillReader_59) [.int (F_K_next (F_K_next S 5).2 10).1, .int (100 + (10 * x1)), .int (-1), .int (F_K_next S 5).1, .int x1, .ref (a 0)] 62 rfl rfl ?_
      refine z_iadd C 63 d_K_fillReader_62 rfl ?_
      refine z_goA C (z_V C kc_K_76 (c_K_put G l a (F_K_next (F_K_next S 5).2 10).2 x1 (F_K_next S 5).1 (-1) ((100 + (10 * x1)) + (F_K_next (F_K_next S 5).2 10).1)) (st := []) 0 0 rfl rfl rfl rfl (Nat.le_of_ble_eq_true rfl) ⟨⟨Nat.le_of_ble_eq_true rfl, Nat.le_of_ble_eq_true rfl⟩, Nat.le_of_ble_eq_true rfl, Nat.le_of_ble_eq_true rfl⟩ d_K_fillReader_63) [] 66 rfl rfl ?_
      exact z_vret C hlk hr d_K_fillReader_66 (by rw [show F_K_fillReader S x1 = (F_K_put (F_K_next (F_K_next S 5).2 10).2 x1 (F_K_next S 5).1 (-1) ((100 + (10 * x1)) + (F_K_next (F_K_next S 5).2 10).1)) from by rw [F_K_fillReader, if_pos c_7]] at hq; exact hq)
    · exact absurd c_30 (by decide)
  · refine z_aload_n C 11 d_K_fillReader_10 rfl rfl ?_
    refine z_iconst C 3 12 d_K_fillReader_11 rfl (by decide) ?_
    refine z_goA C (z_V C kc_K_72 (c_K_next G l a (F_K_next S 5).2 3) (st := []) 0 0 rfl rfl rfl rfl (Nat.le_of_ble_eq_true rfl) ⟨⟨Nat.le_of_ble_eq_true rfl, Nat.le_of_ble_eq_true rfl⟩, Nat.le_of_ble_eq_true rfl, Nat.le_of_ble_eq_true rfl⟩ d_K_fillReader_12) [.int (F_K_next (F_K_next S 5).2 3).1] 15 rfl rfl ?_
    refine z_if_ne C 26 18 d_K_fillReader_15 (by decide) rfl (fun c_15 => ?_) (fun c_15 => ?_)
    · refine z_iconst C (-1) 27 d_K_fillReader_26 rfl (by decide) ?_
      refine z_istore_n C [(3, .int (-1)), (2, .int (F_K_next S 5).1), (0, .ref (a 0)), (1, .int x1)] 28 d_K_fillReader_27 rfl (by decide) rfl ?_
      refine z_iload_n C 29 d_K_fillReader_28 rfl rfl ?_
      refine z_iconst C (-1) 30 d_K_fillReader_29 rfl (by decide) ?_
      refine z_icmp_eq C 45 33 d_K_fillReader_30 (by decide) rfl (fun c_30 => ?_) (fun c_30 => ?_)
      · refine z_aload_n C 46 d_K_fillReader_45 rfl rfl ?_
        refine z_iload_n C 47 d_K_fillReader_46 rfl rfl ?_
        refine z_iload_n C 48 d_K_fillReader_47 rfl rfl ?_
        refine z_iload_n C 49 d_K_fillReader_48 rfl rfl ?_
        refine z_bipush C 100 51 d_K_fillReader_49 rfl (by decide) ?_
        refine z_bipush C 10 53 d_K_fillReader_51 rfl (by decide) ?_
        refine z_iload_n C 54 d_K_fillReader_53 rfl rfl ?_
        refine z_imul C 55 d_K_fillReader_54 rfl ?_
        refine z_iadd C 56 d_K_fillReader_55 rfl ?_
        refine z_aload_n C 57 d_K_fillReader_56 rfl rfl ?_
        refine z_bipush C 10 59 d_K_fillReader_57 rfl (by decide) ?_
        refine z_goA C (z_V C kc_K_72 (c_K_next G l a (F_K_next (F_K_next S 5).2 3).2 10) (st := [.int (100 + (10 * x1)), .int (-1), .int (F_K_next S 5).1, .int x1, .ref (a 0)]) 0 0 rfl rfl rfl rfl (Nat.le_of_ble_eq_true rfl) ⟨⟨Nat.le_of_ble_eq_true rfl, Nat.le_of_ble_eq_true rfl⟩, Nat.le_of_ble_eq_true rfl, Nat.le_of_ble_eq_true rfl⟩ d_K_fillReader_59) [.int (F_K_next (F_K_next (F_K_next S 5).2 3).2 10).1, .int (100 + (10 * x1)), .int (-1), .int (F_K_next S 5).1, .int x1, .ref (a 0)] 62 rfl rfl ?_
        refine z_iadd C 63 d_K_fillReader_62 rfl ?_
        refine z_goA C (z_V C kc_K_76 (c_K_put G l a (F_K_next (F_K_next (F_K_next S 5).2 3).2 10).2 x1 (F_K_next S 5).1 (-1) ((100 + (10 * x1)) + (F_K_next (F_K_next (F_K_next S 5).2 3).2 10).1)) (st := []) 0 0 rfl rfl rfl rfl (Nat.le_of_ble_eq_true rfl) ⟨⟨Nat.le_of_ble_eq_true rfl, Nat.le_of_ble_eq_true rfl⟩, Nat.le_of_ble_eq_true rfl, Nat.le_of_ble_eq_true rfl⟩ d_K_fillReader_63) [] 66 rfl rfl ?_
        exact z_vret C hlk hr d_K_fillReader_66 (by rw [show F_K_fillReader S x1 = (F_K_put (F_K_next (F_K_next (F_K_next S 5).2 3).2 10).2 x1 (F_K_next S 5).1 (-1) ((100 + (10 * x1)) + (F_K_next (F_K_next (F_K_next S 5).2 3).2 10).1)) from by rw [F_K_fillReader, if_neg c_7, if_neg c_15]] at hq; exact hq)
      · exact absurd c_30 (by decide)
    · refine z_aload_n C 19 d_K_fillReader_18 rfl rfl ?_
      refine z_iload_n C 20 d_K_fillReader_19 rfl rfl ?_
      refine z_goA C (z_V C kc_K_72 (c_K_next G l a (F_K_next (F_K_next S 5).2 3).2 x1) (st := []) 0 0 rfl rfl rfl rfl (Nat.le_of_ble_eq_true rfl) ⟨⟨Nat.le_of_ble_eq_true rfl, Nat.le_of_ble_eq_true rfl⟩, Nat.le_of_ble_eq_true rfl, Nat.le_of_ble_eq_true rfl⟩ d_K_fillReader_20) [.int (F_K_next (F_K_next (F_K_next S 5).2 3).2 x1).1] 23 rfl rfl ?_
      refine z_goto C 27 d_K_fillReader_23 (by decide) ?_
      refine z_istore_n C [(3, .int (F_K_next (F_K_next (F_K_next S 5).2 3).2 x1).1), (2, .int (F_K_next S 5).1), (0, .ref (a 0)), (1, .int x1)] 28 d_K_fillReader_27 rfl (by decide) rfl ?_
      refine z_iload_n C 29 d_K_fillReader_28 rfl rfl ?_
      refine z_iconst C (-1) 30 d_K_fillReader_29 rfl (by decide) ?_
      refine z_icmp_eq C 45 33 d_K_fillReader_30 (by decide) rfl (fun c_30 => ?_) (fun c_30 => ?_)
      · refine z_aload_n C 46 d_K_fillReader_45 rfl rfl ?_
        refine z_iload_n C 47 d_K_fillReader_46 rfl rfl ?_
        refine z_iload_n C 48 d_K_fillReader_47 rfl rfl ?_
        refine z_iload_n C 49 d_K_fillReader_48 rfl rfl ?_
        refine z_bipush C 100 51 d_K_fillReader_49 rfl (by decide) ?_
        refine z_bipush C 10 53 d_K_fillReader_51 rfl (by decide) ?_
        refine z_iload_n C 54 d_K_fillReader_53 rfl rfl ?_
        refine z_imul C 55 d_K_fillReader_54 rfl ?_
        refine z_iadd C 56 d_K_fillReader_55 rfl ?_
        refine z_aload_n C 57 d_K_fillReader_56 rfl rfl ?_
        refine z_bipush C 10 59 d_K_fillReader_57 rfl (by decide) ?_
        refine z_goA C (z_V C kc_K_72 (c_K_next G l a (F_K_next (F_K_next (F_K_next S 5).2 3).2 x1).2 10) (st := [.int (100 + (10 * x1)), .int (F_K_next (F_K_next (F_K_next S 5).2 3).2 x1).1, .int (F_K_next S 5).1, .int x1, .ref (a 0)]) 0 0 rfl rfl rfl rfl (Nat.le_of_ble_eq_true rfl) ⟨⟨Nat.le_of_ble_eq_true rfl, Nat.le_of_ble_eq_true rfl⟩, Nat.le_of_ble_eq_true rfl, Nat.le_of_ble_eq_true rfl⟩ d_K_fillReader_59) [.int (F_K_next (F_K_next (F_K_next (F_K_next S 5).2 3).2 x1).2 10).1, .int (100 + (10 * x1)), .int (F_K_next (F_K_next (F_K_next S 5).2 3).2 x1).1, .int (F_K_next S 5).1, .int x1, .ref (a 0)] 62 rfl rfl ?_
        refine z_iadd C 63 d_K_fillReader_62 rfl ?_
        refine z_goA C (z_V C kc_K_76 (c_K_put G l a (F_K_next (F_K_next (F_K_next (F_K_next S 5).2 3).2 x1).2 10).2 x1 (F_K_next S 5).1 (F_K_next (F_K_next (F_K_next S 5).2 3).2 x1).1 ((100 + (10 * x1)) + (F_K_next (F_K_next (F_K_next (F_K_next S 5).2 3).2 x1).2 10).1)) (st := []) 0 0 rfl rfl rfl rfl (Nat.le_of_ble_eq_true rfl) ⟨⟨Nat.le_of_ble_eq_true rfl, Nat.le_of_ble_eq_true rfl⟩, Nat.le_of_ble_eq_true rfl, Nat.le_of_ble_eq_true rfl⟩ d_K_fillReader_63) [] 66 rfl rfl ?_
        exact z_vret C hlk hr d_K_fillReader_66 (by rw [show F_K_fillReader S x1 = (F_K_put (F_K_next (F_K_next (F_K_next (F_K_next S 5).2 3).2 x1).2 10).2 x1 (F_K_next S 5).1 (F_K_next (F_K_next (F_K_next S 5).2 3).2 x1).1 ((100 + (10 * x1)) + (F_K_next (F_K_next (F_K_next (F_K_next S 5).2 3).2 x1).2 10).1)) from by rw [F_K_fillReader, if_neg c_7, if_pos c_15, if_pos c_30]] at hq; exact hq)
      · refine z_aload_n C 34 d_K_fillReader_33 rfl rfl ?_
        refine z_iload_n C 35 d_K_fillReader_34 rfl rfl ?_
        refine z_iconst C 1 36 d_K_fillReader_35 rfl (by decide) ?_
        refine z_goA C (z_V C kc_K_83 (c_K_number G l a (F_K_next (F_K_next (F_K_next S 5).2 3).2 x1).2 (F_K_next (F_K_next (F_K_next S 5).2 3).2 x1).1 1) (st := []) 0 0 rfl rfl rfl rfl (Nat.le_of_ble_eq_true rfl) ⟨⟨Nat.le_of_ble_eq_true rfl, Nat.le_of_ble_eq_true rfl⟩, Nat.le_of_ble_eq_true rfl, Nat.le_of_ble_eq_true rfl⟩ d_K_fillReader_36) [.int (F_K_number (F_K_next (F_K_next (F_K_next S 5).2 3).2 x1).2 (F_K_next (F_K_next (F_K_next S 5).2 3).2 x1).1 1)] 39 rfl rfl ?_
        refine z_iconst C (-1) 40 d_K_fillReader_39 rfl (by decide) ?_
        refine z_icmp_eq C 45 43 d_K_fillReader_40 (by decide) rfl (fun c_40 => ?_) (fun c_40 => ?_)
        · refine z_aload_n C 46 d_K_fillReader_45 rfl rfl ?_
          refine z_iload_n C 47 d_K_fillReader_46 rfl rfl ?_
          refine z_iload_n C 48 d_K_fillReader_47 rfl rfl ?_
          refine z_iload_n C 49 d_K_fillReader_48 rfl rfl ?_
          refine z_bipush C 100 51 d_K_fillReader_49 rfl (by decide) ?_
          refine z_bipush C 10 53 d_K_fillReader_51 rfl (by decide) ?_
          refine z_iload_n C 54 d_K_fillReader_53 rfl rfl ?_
          refine z_imul C 55 d_K_fillReader_54 rfl ?_
          refine z_iadd C 56 d_K_fillReader_55 rfl ?_
          refine z_aload_n C 57 d_K_fillReader_56 rfl rfl ?_
          refine z_bipush C 10 59 d_K_fillReader_57 rfl (by decide) ?_
          refine z_goA C (z_V C kc_K_72 (c_K_next G l a (F_K_next (F_K_next (F_K_next S 5).2 3).2 x1).2 10) (st := [.int (100 + (10 * x1)), .int (F_K_next (F_K_next (F_K_next S 5).2 3).2 x1).1, .int (F_K_next S 5).1, .int x1, .ref (a 0)]) 0 0 rfl rfl rfl rfl (Nat.le_of_ble_eq_true rfl) ⟨⟨Nat.le_of_ble_eq_true rfl, Nat.le_of_ble_eq_true rfl⟩, Nat.le_of_ble_eq_true rfl, Nat.le_of_ble_eq_true rfl⟩ d_K_fillReader_59) [.int (F_K_next (F_K_next (F_K_next (F_K_next S 5).2 3).2 x1).2 10).1, .int (100 + (10 * x1)), .int (F_K_next (F_K_next (F_K_next S 5).2 3).2 x1).1, .int (F_K_next S 5).1, .int x1, .ref (a 0)] 62 rfl rfl ?_
          refine z_iadd C 63 d_K_fillReader_62 rfl ?_
          refine z_goA C (z_V C kc_K_76 (c_K_put G l a (F_K_next (F_K_next (F_K_next (F_K_next S 5).2 3).2 x1).2 10).2 x1 (F_K_next S 5).1 (F_K_next (F_K_next (F_K_next S 5).2 3).2 x1).1 ((100 + (10 * x1)) + (F_K_next (F_K_next (F_K_next (F_K_next S 5).2 3).2 x1).2 10).1)) (st := []) 0 0 rfl rfl rfl rfl (Nat.le_of_ble_eq_true rfl) ⟨⟨Nat.le_of_ble_eq_true rfl, Nat.le_of_ble_eq_true rfl⟩, Nat.le_of_ble_eq_true rfl, Nat.le_of_ble_eq_true rfl⟩ d_K_fillReader_63) [] 66 rfl rfl ?_
          exact z_vret C hlk hr d_K_fillReader_66 (by rw [show F_K_fillReader S x1 = (F_K_put (F_K_next (F_K_next (F_K_next (F_K_next S 5).2 3).2 x1).2 10).2 x1 (F_K_next S 5).1 (F_K_next (F_K_next (F_K_next S 5).2 3).2 x1).1 ((100 + (10 * x1)) + (F_K_next (F_K_next (F_K_next (F_K_next S 5).2 3).2 x1).2 10).1)) from by rw [F_K_fillReader, if_neg c_7, if_pos c_15, if_neg c_30, if_pos c_40]] at hq; exact hq)
        · refine z_iconst C (-1) 44 d_K_fillReader_43 rfl (by decide) ?_
          refine z_istore_n C [(3, .int (-1)), (2, .int (F_K_next S 5).1), (0, .ref (a 0)), (1, .int x1)] 45 d_K_fillReader_44 rfl (by decide) rfl ?_
          refine z_aload_n C 46 d_K_fillReader_45 rfl rfl ?_
          refine z_iload_n C 47 d_K_fillReader_46 rfl rfl ?_
          refine z_iload_n C 48 d_K_fillReader_47 rfl rfl ?_
          refine z_iload_n C 49 d_K_fillReader_48 rfl rfl ?_
          refine z_bipush C 100 51 d_K_fillReader_49 rfl (by decide) ?_
          refine z_bipush C 10 53 d_K_fillReader_51 rfl (by decide) ?_
          refine z_iload_n C 54 d_K_fillReader_53 rfl rfl ?_
          refine z_imul C 55 d_K_fillReader_54 rfl ?_
          refine z_iadd C 56 d_K_fillReader_55 rfl ?_
          refine z_aload_n C 57 d_K_fillReader_56 rfl rfl ?_
          refine z_bipush C 10 59 d_K_fillReader_57 rfl (by decide) ?_
          refine z_goA C (z_V C kc_K_72 (c_K_next G l a (F_K_next (F_K_next (F_K_next S 5).2 3).2 x1).2 10) (st := [.int (100 + (10 * x1)), .int (-1), .int (F_K_next S 5).1, .int x1, .ref (a 0)]) 0 0 rfl rfl rfl rfl (Nat.le_of_ble_eq_true rfl) ⟨⟨Nat.le_of_ble_eq_true rfl, Nat.le_of_ble_eq_true rfl⟩, Nat.le_of_ble_eq_true rfl, Nat.le_of_ble_eq_true rfl⟩ d_K_fillReader_59) [.int (F_K_next (F_K_next (F_K_next (F_K_next S 5).2 3).2 x1).2 10).1, .int (100 + (10 * x1)), .int (-1), .int (F_K_next S 5).1, .int x1, .ref (a 0)] 62 rfl rfl ?_
          refine z_iadd C 63 d_K_fillReader_62 rfl ?_
          refine z_goA C (z_V C kc_K_76 (c_K_put G l a (F_K_next (F_K_next (F_K_next (F_K_next S 5).2 3).2 x1).2 10).2 x1 (F_K_next S 5).1 (-1) ((100 + (10 * x1)) + (F_K_next (F_K_next (F_K_next (F_K_next S 5).2 3).2 x1).2 10).1)) (st := []) 0 0 rfl rfl rfl rfl (Nat.le_of_ble_eq_true rfl) ⟨⟨Nat.le_of_ble_eq_true rfl, Nat.le_of_ble_eq_true rfl⟩, Nat.le_of_ble_eq_true rfl, Nat.le_of_ble_eq_true rfl⟩ d_K_fillReader_63) [] 66 rfl rfl ?_
          exact z_vret C hlk hr d_K_fillReader_66 (by rw [show F_K_fillReader S x1 = (F_K_put (F_K_next (F_K_next (F_K_next (F_K_next S 5).2 3).2 x1).2 10).2 x1 (F_K_next S 5).1 (-1) ((100 + (10 * x1)) + (F_K_next (F_K_next (F_K_next (F_K_next S 5).2 3).2 x1).2 10).1)) from by rw [F_K_fillReader, if_neg c_7, if_pos c_15, if_neg c_30, if_neg c_40]] at hq; exact hq)

def F_K_fillAct (S : SK) (x1 : Int32) : SK :=
  (F_K_put (F_K_next (F_K_next (F_K_next S 6).2 (sK_parts (F_K_next S 6).2)).2 5).2 x1 (F_K_next S 6).1 (F_K_next (F_K_next S 6).2 (sK_parts (F_K_next S 6).2)).1 ((F_K_timeBefore (F_K_next (F_K_next S 6).2 (sK_parts (F_K_next S 6).2)).2 x1) + (F_K_next (F_K_next (F_K_next S 6).2 (sK_parts (F_K_next S 6).2)).2 5).1))
set_option maxRecDepth 100000 in
set_option maxHeartbeats 4000000 in
theorem c_K_fillAct (G : zG) (l : Launch) (a : Nat → Nat) (S : SK) (x1 : Int32)  : zM G l y_K_fillAct b_K_fillAct 4 (none) (zR 3 64) [.ref (a 0), .int x1] (wK G a S) (fun r1 w1 => r1 = none ∧ w1 = wK G a (F_K_fillAct S x1)) := by
  generalize hPost : (fun (r1 : Option Value) (w1 : va_W) => r1 = none ∧ w1 = wK G a (F_K_fillAct S x1)) = Post
  have hq : Post (none) (wK G a (F_K_fillAct S x1)) := by rw [← hPost]; exact ⟨rfl, rfl⟩
  clear hPost
  refine zM_of (by decide) (Nat.le_of_ble_eq_true rfl) ?_
  intro p e s m args below meth c C hlk hr hin
  refine z_aload_n C 1 d_K_fillAct_0 rfl rfl ?_
  refine z_bipush C 6 3 d_K_fillAct_1 rfl (by decide) ?_
  refine z_goA C (z_V C kc_K_72 (c_K_next G l a S 6) (st := []) 0 0 rfl rfl rfl rfl (Nat.le_of_ble_eq_true rfl) ⟨⟨Nat.le_of_ble_eq_true rfl, Nat.le_of_ble_eq_true rfl⟩, Nat.le_of_ble_eq_true rfl, Nat.le_of_ble_eq_true rfl⟩ d_K_fillAct_3) [.int (F_K_next S 6).1] 6 rfl rfl ?_
  refine z_istore_n C [(2, .int (F_K_next S 6).1), (0, .ref (a 0)), (1, .int x1)] 7 d_K_fillAct_6 rfl (by decide) rfl ?_
  refine z_aload_n C 8 d_K_fillAct_7 rfl rfl ?_
  refine z_aload_n C 9 d_K_fillAct_8 rfl rfl ?_
  refine z_get C kf_K_29 0 (v := .int (sK_parts (F_K_next S 6).2)) 12 d_K_fillAct_9 rfl rfl rfl ?_
  refine z_goA C (z_V C kc_K_72 (c_K_next G l a (F_K_next S 6).2 (sK_parts (F_K_next S 6).2)) (st := []) 0 0 rfl rfl rfl rfl (Nat.le_of_ble_eq_true rfl) ⟨⟨Nat.le_of_ble_eq_true rfl, Nat.le_of_ble_eq_true rfl⟩, Nat.le_of_ble_eq_true rfl, Nat.le_of_ble_eq_true rfl⟩ d_K_fillAct_12) [.int (F_K_next (F_K_next S 6).2 (sK_parts (F_K_next S 6).2)).1] 15 rfl rfl ?_
  refine z_istore_n C [(3, .int (F_K_next (F_K_next S 6).2 (sK_parts (F_K_next S 6).2)).1), (2, .int (F_K_next S 6).1), (0, .ref (a 0)), (1, .int x1)] 16 d_K_fillAct_15 rfl (by decide) rfl ?_
  refine z_aload_n C 17 d_K_fillAct_16 rfl rfl ?_
  refine z_iload_n C 18 d_K_fillAct_17 rfl rfl ?_
  refine z_iload_n C 19 d_K_fillAct_18 rfl rfl ?_
  refine z_iload_n C 20 d_K_fillAct_19 rfl rfl ?_
  refine z_aload_n C 21 d_K_fillAct_20 rfl rfl ?_
  refine z_iload_n C 22 d_K_fillAct_21 rfl rfl ?_
  refine z_goA C (z_V C kc_K_99 (c_K_timeBefore G l a (F_K_next (F_K_next S 6).2 (sK_parts (F_K_next S 6).2)).2 x1) (st := [.int (F_K_next (F_K_next S 6).2 (sK_parts (F_K_next S 6).2)).1, .int (F_K_next S 6).1, .int x1, .ref (a 0)]) 0 0 rfl rfl rfl rfl (Nat.le_of_ble_eq_true rfl) ⟨⟨Nat.le_of_ble_eq_true rfl, Nat.le_of_ble_eq_true rfl⟩, Nat.le_of_ble_eq_true rfl, Nat.le_of_ble_eq_true rfl⟩ d_K_fillAct_22) [.int (F_K_timeBefore (F_K_next (F_K_next S 6).2 (sK_parts (F_K_next S 6).2)).2 x1), .int (F_K_next (F_K_next S 6).2 (sK_parts (F_K_next S 6).2)).1, .int (F_K_next S 6).1, .int x1, .ref (a 0)] 25 rfl rfl ?_
  refine z_aload_n C 26 d_K_fillAct_25 rfl rfl ?_
  refine z_iconst C 5 27 d_K_fillAct_26 rfl (by decide) ?_
  refine z_goA C (z_V C kc_K_72 (c_K_next G l a (F_K_next (F_K_next S 6).2 (sK_parts (F_K_next S 6).2)).2 5) (st := [.int (F_K_timeBefore (F_K_next (F_K_next S 6).2 (sK_parts (F_K_next S 6).2)).2 x1), .int (F_K_next (F_K_next S 6).2 (sK_parts (F_K_next S 6).2)).1, .int (F_K_next S 6).1, .int x1, .ref (a 0)]) 0 0 rfl rfl rfl rfl (Nat.le_of_ble_eq_true rfl) ⟨⟨Nat.le_of_ble_eq_true rfl, Nat.le_of_ble_eq_true rfl⟩, Nat.le_of_ble_eq_true rfl, Nat.le_of_ble_eq_true rfl⟩ d_K_fillAct_27) [.int (F_K_next (F_K_next (F_K_next S 6).2 (sK_parts (F_K_next S 6).2)).2 5).1, .int (F_K_timeBefore (F_K_next (F_K_next S 6).2 (sK_parts (F_K_next S 6).2)).2 x1), .int (F_K_next (F_K_next S 6).2 (sK_parts (F_K_next S 6).2)).1, .int (F_K_next S 6).1, .int x1, .ref (a 0)] 30 rfl rfl ?_
  refine z_iadd C 31 d_K_fillAct_30 rfl ?_
  refine z_goA C (z_V C kc_K_76 (c_K_put G l a (F_K_next (F_K_next (F_K_next S 6).2 (sK_parts (F_K_next S 6).2)).2 5).2 x1 (F_K_next S 6).1 (F_K_next (F_K_next S 6).2 (sK_parts (F_K_next S 6).2)).1 ((F_K_timeBefore (F_K_next (F_K_next S 6).2 (sK_parts (F_K_next S 6).2)).2 x1) + (F_K_next (F_K_next (F_K_next S 6).2 (sK_parts (F_K_next S 6).2)).2 5).1)) (st := []) 0 0 rfl rfl rfl rfl (Nat.le_of_ble_eq_true rfl) ⟨⟨Nat.le_of_ble_eq_true rfl, Nat.le_of_ble_eq_true rfl⟩, Nat.le_of_ble_eq_true rfl, Nat.le_of_ble_eq_true rfl⟩ d_K_fillAct_31) [] 34 rfl rfl ?_
  exact z_vret C hlk hr d_K_fillAct_34 (by rw [show F_K_fillAct S x1 = (F_K_put (F_K_next (F_K_next (F_K_next S 6).2 (sK_parts (F_K_next S 6).2)).2 5).2 x1 (F_K_next S 6).1 (F_K_next (F_K_next S 6).2 (sK_parts (F_K_next S 6).2)).1 ((F_K_timeBefore (F_K_next (F_K_next S 6).2 (sK_parts (F_K_next S 6).2)).2 x1) + (F_K_next (F_K_next (F_K_next S 6).2 (sK_parts (F_K_next S 6).2)).2 5).1)) from by rw [F_K_fillAct]] at hq; exact hq)

def F_K_fillPart (S : SK) (x1 : Int32) : SK :=
  if (sK_kind S) = 0 then
    (F_K_fillRecord S x1)
  else
    if (sK_kind S) = 1 then
      (F_K_fillFile S x1)
    else
      if (sK_kind S) = 2 then
        (F_K_fillPattern S x1)
      else
        if (sK_kind S) = 3 then
          (F_K_fillLine S x1)
        else
          if (sK_kind S) = 4 then
            (F_K_fillReader S x1)
          else
            (F_K_fillAct S x1)
set_option maxRecDepth 100000 in
set_option maxHeartbeats 4000000 in
theorem c_K_fillPart (G : zG) (l : Launch) (a : Nat → Nat) (S : SK) (x1 : Int32)  : zM G l y_K_fillPart b_K_fillPart 2 (none) (zR 4 93) [.ref (a 0), .int x1] (wK G a S) (fun r1 w1 => r1 = none ∧ w1 = wK G a (F_K_fillPart S x1)) := by
  generalize hPost : (fun (r1 : Option Value) (w1 : va_W) => r1 = none ∧ w1 = wK G a (F_K_fillPart S x1)) = Post
  have hq : Post (none) (wK G a (F_K_fillPart S x1)) := by rw [← hPost]; exact ⟨rfl, rfl⟩
  clear hPost
  refine zM_of (by decide) (Nat.le_of_ble_eq_true rfl) ?_
  intro p e s m args below meth c C hlk hr hin
  refine z_aload_n C 1 d_K_fillPart_0 rfl rfl ?_
  refine z_get C kf_K_25 0 (v := .int (sK_kind S)) 4 d_K_fillPart_1 rfl rfl rfl ?_
  by_cases c_4_0 : (sK_kind S) = 0
  · refine z_tableIn C 40 d_K_fillPart_4 (by rw [c_4_0]; decide) (by rw [c_4_0]; decide) (by rw [c_4_0]; rfl) (by decide) ?_
    refine z_aload_n C 41 d_K_fillPart_40 rfl rfl ?_
    refine z_iload_n C 42 d_K_fillPart_41 rfl rfl ?_
    refine z_goA C (z_V C kc_K_51 (c_K_fillRecord G l a S x1) (st := []) 0 0 rfl rfl rfl rfl (Nat.le_of_ble_eq_true rfl) ⟨⟨Nat.le_of_ble_eq_true rfl, Nat.le_of_ble_eq_true rfl⟩, Nat.le_of_ble_eq_true rfl, Nat.le_of_ble_eq_true rfl⟩ d_K_fillPart_42) [] 45 rfl rfl ?_
    refine z_goto C 85 d_K_fillPart_45 (by decide) ?_
    exact z_vret C hlk hr d_K_fillPart_85 (by rw [show F_K_fillPart S x1 = (F_K_fillRecord S x1) from by rw [F_K_fillPart, if_pos c_4_0]] at hq; exact hq)
  by_cases c_4_1 : (sK_kind S) = 1
  · refine z_tableIn C 48 d_K_fillPart_4 (by rw [c_4_1]; decide) (by rw [c_4_1]; decide) (by rw [c_4_1]; rfl) (by decide) ?_
    refine z_aload_n C 49 d_K_fillPart_48 rfl rfl ?_
    refine z_iload_n C 50 d_K_fillPart_49 rfl rfl ?_
    refine z_goA C (z_V C kc_K_54 (c_K_fillFile G l a S x1) (st := []) 0 0 rfl rfl rfl rfl (Nat.le_of_ble_eq_true rfl) ⟨⟨Nat.le_of_ble_eq_true rfl, Nat.le_of_ble_eq_true rfl⟩, Nat.le_of_ble_eq_true rfl, Nat.le_of_ble_eq_true rfl⟩ d_K_fillPart_50) [] 53 rfl rfl ?_
    refine z_goto C 85 d_K_fillPart_53 (by decide) ?_
    exact z_vret C hlk hr d_K_fillPart_85 (by rw [show F_K_fillPart S x1 = (F_K_fillFile S x1) from by rw [F_K_fillPart, if_neg c_4_0, if_pos c_4_1]] at hq; exact hq)
  by_cases c_4_2 : (sK_kind S) = 2
  · refine z_tableIn C 56 d_K_fillPart_4 (by rw [c_4_2]; decide) (by rw [c_4_2]; decide) (by rw [c_4_2]; rfl) (by decide) ?_
    refine z_aload_n C 57 d_K_fillPart_56 rfl rfl ?_
    refine z_iload_n C 58 d_K_fillPart_57 rfl rfl ?_
    refine z_goA C (z_V C kc_K_57 (c_K_fillPattern G l a S x1) (st := []) 0 0 rfl rfl rfl rfl (Nat.le_of_ble_eq_true rfl) ⟨⟨Nat.le_of_ble_eq_true rfl, Nat.le_of_ble_eq_true rfl⟩, Nat.le_of_ble_eq_true rfl, Nat.le_of_ble_eq_true rfl⟩ d_K_fillPart_58) [] 61 rfl rfl ?_
    refine z_goto C 85 d_K_fillPart_61 (by decide) ?_
    exact z_vret C hlk hr d_K_fillPart_85 (by rw [show F_K_fillPart S x1 = (F_K_fillPattern S x1) from by rw [F_K_fillPart, if_neg c_4_0, if_neg c_4_1, if_pos c_4_2]] at hq; exact hq)
  by_cases c_4_3 : (sK_kind S) = 3
  · refine z_tableIn C 64 d_K_fillPart_4 (by rw [c_4_3]; decide) (by rw [c_4_3]; decide) (by rw [c_4_3]; rfl) (by decide) ?_
    refine z_aload_n C 65 d_K_fillPart_64 rfl rfl ?_
    refine z_iload_n C 66 d_K_fillPart_65 rfl rfl ?_
    refine z_goA C (z_V C kc_K_60 (c_K_fillLine G l a S x1) (st := []) 0 0 rfl rfl rfl rfl (Nat.le_of_ble_eq_true rfl) ⟨⟨Nat.le_of_ble_eq_true rfl, Nat.le_of_ble_eq_true rfl⟩, Nat.le_of_ble_eq_true rfl, Nat.le_of_ble_eq_true rfl⟩ d_K_fillPart_66) [] 69 rfl rfl ?_
    refine z_goto C 85 d_K_fillPart_69 (by decide) ?_
    exact z_vret C hlk hr d_K_fillPart_85 (by rw [show F_K_fillPart S x1 = (F_K_fillLine S x1) from by rw [F_K_fillPart, if_neg c_4_0, if_neg c_4_1, if_neg c_4_2, if_pos c_4_3]] at hq; exact hq)
  by_cases c_4_4 : (sK_kind S) = 4
  · refine z_tableIn C 72 d_K_fillPart_4 (by rw [c_4_4]; decide) (by rw [c_4_4]; decide) (by rw [c_4_4]; rfl) (by decide) ?_
    refine z_aload_n C 73 d_K_fillPart_72 rfl rfl ?_
    refine z_iload_n C 74 d_K_fillPart_73 rfl rfl ?_
    refine z_goA C (z_V C kc_K_63 (c_K_fillReader G l a S x1) (st := []) 0 0 rfl rfl rfl rfl (Nat.le_of_ble_eq_true rfl) ⟨⟨Nat.le_of_ble_eq_true rfl, Nat.le_of_ble_eq_true rfl⟩, Nat.le_of_ble_eq_true rfl, Nat.le_of_ble_eq_true rfl⟩ d_K_fillPart_74) [] 77 rfl rfl ?_
    refine z_goto C 85 d_K_fillPart_77 (by decide) ?_
    exact z_vret C hlk hr d_K_fillPart_85 (by rw [show F_K_fillPart S x1 = (F_K_fillReader S x1) from by rw [F_K_fillPart, if_neg c_4_0, if_neg c_4_1, if_neg c_4_2, if_neg c_4_3, if_pos c_4_4]] at hq; exact hq)
  refine z_tableOut C 80 d_K_fillPart_4 (by have q0 := lv_neT c_4_0 (a := 0) (by decide); have q1 := lv_neT c_4_1 (a := 1) (by decide); have q2 := lv_neT c_4_2 (a := 2) (by decide); have q3 := lv_neT c_4_3 (a := 3) (by decide); have q4 := lv_neT c_4_4 (a := 4) (by decide); omega) (by decide) ?_
  refine z_aload_n C 81 d_K_fillPart_80 rfl rfl ?_
  refine z_iload_n C 82 d_K_fillPart_81 rfl rfl ?_
  refine z_goA C (z_V C kc_K_66 (c_K_fillAct G l a S x1) (st := []) 0 0 rfl rfl rfl rfl (Nat.le_of_ble_eq_true rfl) ⟨⟨Nat.le_of_ble_eq_true rfl, Nat.le_of_ble_eq_true rfl⟩, Nat.le_of_ble_eq_true rfl, Nat.le_of_ble_eq_true rfl⟩ d_K_fillPart_82) [] 85 rfl rfl ?_
  exact z_vret C hlk hr d_K_fillPart_85 (by rw [show F_K_fillPart S x1 = (F_K_fillAct S x1) from by rw [F_K_fillPart, if_neg c_4_0, if_neg c_4_1, if_neg c_4_2, if_neg c_4_3, if_neg c_4_4]] at hq; exact hq)
end
section

theorem sp_chance (S : SK) (c : Int64) : sK_parts (uK_chance S c) = sK_parts S := rfl
theorem kp_next (S : SK) (x : Int32) : sK_parts (F_K_next S x).2 = sK_parts S := by unfold F_K_next; split <;> exact sp_chance _ _
theorem kp_put (S : SK) (i x y z : Int32) : sK_parts (F_K_put S i x y z) = sK_parts S := by unfold F_K_put; split <;> rfl
theorem kp_addSign (S : SK) (x : Int32) : sK_parts (F_K_addSign S x) = sK_parts S := by unfold F_K_addSign; (repeat' split) <;> rfl
theorem kp_startTitle (S : SK) (x : Int32) : sK_parts (F_K_startTitle S x) = sK_parts S := by unfold F_K_startTitle; split <;> rfl
theorem kp_rep (n : Nat) : ∀ (S : SK) (v1 v2 v3 : Int32), sK_parts (L_K_repeatTitle_18 n S v1 v2 v3) = sK_parts S := by
  induction n with
  | zero => intros; rfl
  | succ n ih => intro S v1 v2 v3; rw [L_K_repeatTitle_18]; split; rfl; rw [ih, kp_addSign]
theorem kp_repeatTitle (S : SK) (x : Int32) : sK_parts (F_K_repeatTitle S x) = sK_parts S := by unfold F_K_repeatTitle; split; rfl; rw [kp_rep]
theorem kp_rec (n : Nat) : ∀ (S : SK) (v3 v5 : Int32), sK_parts (L_K_fillRecord_76 n S v3 v5) = sK_parts S := by
  induction n with
  | zero => intros; rfl
  | succ n ih => intro S v3 v5; rw [L_K_fillRecord_76]; split; rw [kp_addSign]; rw [ih, kp_addSign, kp_next]
theorem kp_fillRecord (S : SK) (x : Int32) : sK_parts (F_K_fillRecord S x) = sK_parts S := by
  unfold F_K_fillRecord
  (repeat' split) <;> simp only [kp_rec, kp_addSign, kp_repeatTitle, kp_put, kp_next, kp_startTitle]
theorem kp_ww (n : Nat) : ∀ (S : SK) (v1 v2 v3 v4 v5 v6 : Int32), sK_parts (L_K_fillFileWithWinner_27 n S v1 v2 v3 v4 v5 v6) = sK_parts S := by
  induction n with
  | zero => intros; rfl
  | succ n ih => intros; rw [L_K_fillFileWithWinner_27]; (repeat' split) <;> simp only [ih, kp_put, kp_next]
theorem kp_wo (n : Nat) : ∀ (S : SK) (v1 v2 v3 v4 v5 : Int32), sK_parts (L_K_fillFileWithoutWinner_20 n S v1 v2 v3 v4 v5) = sK_parts S := by
  induction n with
  | zero => intros; rfl
  | succ n ih => intros; rw [L_K_fillFileWithoutWinner_20]; (repeat' split) <;> simp only [ih, kp_put, kp_next]
theorem kp_fillFile (S : SK) (x : Int32) : sK_parts (F_K_fillFile S x) = sK_parts S := by
  unfold F_K_fillFile
  split
  · unfold F_K_fillFileWithWinner; simp only [kp_ww, kp_next]
  · unfold F_K_fillFileWithoutWinner; simp only [kp_wo, kp_next]
theorem kp_fillPart (S : SK) (x : Int32) : sK_parts (F_K_fillPart S x) = sK_parts S := by
  unfold F_K_fillPart
  (repeat' split)
  · exact kp_fillRecord S x
  · exact kp_fillFile S x
  · unfold F_K_fillPattern; (repeat' split) <;> simp only [kp_put, kp_next]
  · unfold F_K_fillLine; (repeat' split) <;> simp only [kp_put, kp_next]
  · unfold F_K_fillReader; (repeat' split) <;> simp only [kp_put, kp_next]
  · unfold F_K_fillAct; (repeat' split) <;> simp only [kp_put, kp_next]

def F_D_canBeDrawn (x0 : Int32) (x1 : Int32) : Int32 :=
  if x0 < 0 then
    0
  else
    if 5 < x0 then
      0
    else
      if x1 < 0 then
        0
      else
        if 20 < x1 then
          0
        else
          1
set_option maxRecDepth 100000 in
set_option maxHeartbeats 4000000 in
theorem c_D_canBeDrawn (G : zG) (l : Launch) (x0 : Int32) (x1 : Int32)  : zM G l y_D_canBeDrawn b_D_canBeDrawn 2 (some .boolean) (zR 0 0) [.int x0, .int x1] ([]) (fun r1 w1 => r1 = some (.int (F_D_canBeDrawn x0 x1)) ∧ w1 = []) := by
  generalize hPost : (fun (r1 : Option Value) (w1 : va_W) => r1 = some (.int (F_D_canBeDrawn x0 x1)) ∧ w1 = []) = Post
  have hq : Post (some (.int (F_D_canBeDrawn x0 x1))) ([]) := by rw [← hPost]; exact ⟨rfl, rfl⟩
  clear hPost
  refine zM_of (by decide) (Nat.le_of_ble_eq_true rfl) ?_
  intro p e s m args below meth c C hlk hr hin
  refine z_iload_n C 1 d_D_canBeDrawn_0 rfl rfl ?_
  refine z_if_lt C 23 4 d_D_canBeDrawn_1 (by decide) rfl (fun c_1 => ?_) (fun c_1 => ?_)
  · refine z_iconst C 0 24 d_D_canBeDrawn_23 rfl (by decide) ?_
    exact z_zret C hlk rfl hr d_D_canBeDrawn_24 (by rw [show F_D_canBeDrawn x0 x1 = 0 from by rw [F_D_canBeDrawn, if_pos c_1]] at hq; exact hq)
  · refine z_iload_n C 5 d_D_canBeDrawn_4 rfl rfl ?_
    refine z_iconst C 5 6 d_D_canBeDrawn_5 rfl (by decide) ?_
    refine z_icmp_gt C 23 9 d_D_canBeDrawn_6 (by decide) rfl (fun c_6 => ?_) (fun c_6 => ?_)
    · refine z_iconst C 0 24 d_D_canBeDrawn_23 rfl (by decide) ?_
      exact z_zret C hlk rfl hr d_D_canBeDrawn_24 (by rw [show F_D_canBeDrawn x0 x1 = 0 from by rw [F_D_canBeDrawn, if_neg c_1, if_pos c_6]] at hq; exact hq)
    · refine z_iload_n C 10 d_D_canBeDrawn_9 rfl rfl ?_
      refine z_if_lt C 23 13 d_D_canBeDrawn_10 (by decide) rfl (fun c_10 => ?_) (fun c_10 => ?_)
      · refine z_iconst C 0 24 d_D_canBeDrawn_23 rfl (by decide) ?_
        exact z_zret C hlk rfl hr d_D_canBeDrawn_24 (by rw [show F_D_canBeDrawn x0 x1 = 0 from by rw [F_D_canBeDrawn, if_neg c_1, if_neg c_6, if_pos c_10]] at hq; exact hq)
      · refine z_iload_n C 14 d_D_canBeDrawn_13 rfl rfl ?_
        refine z_bipush C 20 16 d_D_canBeDrawn_14 rfl (by decide) ?_
        refine z_icmp_gt C 23 19 d_D_canBeDrawn_16 (by decide) rfl (fun c_16 => ?_) (fun c_16 => ?_)
        · refine z_iconst C 0 24 d_D_canBeDrawn_23 rfl (by decide) ?_
          exact z_zret C hlk rfl hr d_D_canBeDrawn_24 (by rw [show F_D_canBeDrawn x0 x1 = 0 from by rw [F_D_canBeDrawn, if_neg c_1, if_neg c_6, if_neg c_10, if_pos c_16]] at hq; exact hq)
        · refine z_iconst C 1 20 d_D_canBeDrawn_19 rfl (by decide) ?_
          refine z_goto C 24 d_D_canBeDrawn_20 (by decide) ?_
          exact z_zret C hlk rfl hr d_D_canBeDrawn_24 (by rw [show F_D_canBeDrawn x0 x1 = 1 from by rw [F_D_canBeDrawn, if_neg c_1, if_neg c_6, if_neg c_10, if_neg c_16]] at hq; exact hq)

def L_K_fill_51 : Nat → SK → Int32 → SK
  | 0, S, v5 => S
  | n + 1, S, v5 =>
    if (sK_parts S) ≤ v5 then
      S
    else
      (L_K_fill_51 n (F_K_fillPart S v5) (v5 + 1))
set_option maxRecDepth 100000 in
set_option maxHeartbeats 4000000 in
theorem l_K_fill_51 (G : zG) (l : Launch) (a : Nat → Nat) {p : Program} {e : Env} {s : State} {m : MethodId} {args : Array Value} {below : List Frame} {meth : Method} {c : Code} {w0 : va_W} {Post : Option Value → va_W → Prop} (C : zC p s m args meth c b_K_fill 6 N_K G (va_A w0 s.heap.size)) (hlk : meth.locks = false) (hr : meth.sig.returnType = none) :
    ∀ (n : Nat) (S : SK) (v5 : Int32), (Int32.toInt (sK_parts S) - Int32.toInt v5).toNat < n → Post (none) (wK G a (L_K_fill_51 n S v5)) → zV p l e (zR 5 114) s m args below meth c 6 G (va_A w0 s.heap.size) (MQ below (zQ G w0 s.heap.size Post) args s 0 0 (va_A w0 s.heap.size)) 0 0 (wK G a S) 51 [(0, .ref (a 0)), (5, .int v5)] [] := by
  intro n
  induction n with
  | zero => intro S v5 h; exact absurd h (Nat.not_lt_zero _)
  | succ n ih =>
    intro S v5 hmu hq
    refine z_iload C 53 d_K_fill_51 rfl rfl ?_
    refine z_aload_n C 54 d_K_fill_53 rfl rfl ?_
    refine z_get C kf_K_29 0 (v := .int (sK_parts S)) 57 d_K_fill_54 rfl rfl rfl ?_
    refine z_icmp_ge C 72 60 d_K_fill_57 (by decide) rfl (fun c_57 => ?_) (fun c_57 => ?_)
    · exact z_vret C hlk hr d_K_fill_72 (by rw [show L_K_fill_51 (n + 1) S v5 = S from by rw [L_K_fill_51, if_pos c_57]] at hq; exact hq)
    · refine z_aload_n C 61 d_K_fill_60 rfl rfl ?_
      refine z_iload C 63 d_K_fill_61 rfl rfl ?_
      refine z_goA C (z_V C kc_K_47 (c_K_fillPart G l a S v5) (st := []) 0 0 rfl rfl rfl rfl (Nat.le_of_ble_eq_true rfl) ⟨⟨Nat.le_of_ble_eq_true rfl, Nat.le_of_ble_eq_true rfl⟩, Nat.le_of_ble_eq_true rfl, Nat.le_of_ble_eq_true rfl⟩ d_K_fill_63) [] 66 rfl rfl ?_
      refine z_iinc C (v5 + 1) [(5, .int (v5 + 1)), (0, .ref (a 0))] 69 d_K_fill_66 rfl (by decide) rfl rfl rfl ?_
      refine z_goto C 51 d_K_fill_69 (by decide) ?_
      refine z_lvs [1, 0] [(0, .ref (a 0)), (5, .int (v5 + 1))] rfl ?_
      exact ih (F_K_fillPart S v5) (v5 + 1) (by rw [kp_fillPart]; exact zdec c_57 hmu) (by rw [show L_K_fill_51 (n + 1) S v5 = (L_K_fill_51 n (F_K_fillPart S v5) (v5 + 1)) from by rw [L_K_fill_51, if_neg c_57]] at hq; exact hq)
def F_K_fill (S : SK) (x1 : Int64) (x3 : Int32) (x4 : Int32) : SK :=
  if (F_D_canBeDrawn x3 x4) = 0 then
    S
  else
    (L_K_fill_51 ((Int32.toInt (sK_parts (uK_signsUsed (uK_parts (uK_kind (uK_chance S ((x1 + (1000003 * (Int32.toInt64 x3))) + (101 * (Int32.toInt64 x4)))) x3) (x4 + 1)) 0)) - Int32.toInt 0).toNat + 1) (uK_signsUsed (uK_parts (uK_kind (uK_chance S ((x1 + (1000003 * (Int32.toInt64 x3))) + (101 * (Int32.toInt64 x4)))) x3) (x4 + 1)) 0) 0)
set_option maxRecDepth 100000 in
set_option maxHeartbeats 4000000 in
theorem c_K_fill (G : zG) (l : Launch) (a : Nat → Nat) (S : SK) (x1 : Int64) (x3 : Int32) (x4 : Int32)  : zM G l y_K_fill b_K_fill 6 (none) (zR 5 114) [.ref (a 0), .long x1, .int x3, .int x4] (wK G a S) (fun r1 w1 => r1 = none ∧ w1 = wK G a (F_K_fill S x1 x3 x4)) := by
  generalize hPost : (fun (r1 : Option Value) (w1 : va_W) => r1 = none ∧ w1 = wK G a (F_K_fill S x1 x3 x4)) = Post
  have hq : Post (none) (wK G a (F_K_fill S x1 x3 x4)) := by rw [← hPost]; exact ⟨rfl, rfl⟩
  clear hPost
  refine zM_of (by decide) (Nat.le_of_ble_eq_true rfl) ?_
  intro p e s m args below meth c C hlk hr hin
  refine z_iload_n C 1 d_K_fill_0 rfl rfl ?_
  refine z_iload C 3 d_K_fill_1 rfl rfl ?_
  refine z_go0 C (z_SN C kc_K_39 (c_D_canBeDrawn G l x3 x4) (st := []) rfl rfl (Nat.le_of_ble_eq_true rfl) ⟨⟨Nat.le_of_ble_eq_true rfl, Nat.le_of_ble_eq_true rfl⟩, Nat.le_of_ble_eq_true rfl, Nat.le_of_ble_eq_true rfl⟩ d_K_fill_3) [0, 1, 2, 3] [.int (F_D_canBeDrawn x3 x4)] 6 rfl rfl rfl rfl ?_
  refine z_if_ne C 10 9 d_K_fill_6 (by decide) rfl (fun c_6 => ?_) (fun c_6 => ?_)
  · refine z_aload_n C 11 d_K_fill_10 rfl rfl ?_
    refine z_lload_n C 12 d_K_fill_11 rfl rfl ?_
    refine z_ldc2 C 1000003 15 d_K_fill_12 rfl kk_K_43 ?_
    refine z_iload_n C 16 d_K_fill_15 rfl rfl ?_
    refine z_i2l C 17 d_K_fill_16 rfl ?_
    refine z_lmul C 18 d_K_fill_17 rfl ?_
    refine z_ladd C 19 d_K_fill_18 rfl ?_
    refine z_ldc2 C 101 22 d_K_fill_19 rfl kk_K_45 ?_
    refine z_iload C 24 d_K_fill_22 rfl rfl ?_
    refine z_i2l C 25 d_K_fill_24 rfl ?_
    refine z_lmul C 26 d_K_fill_25 rfl ?_
    refine z_ladd C 27 d_K_fill_26 rfl ?_
    refine z_put C kf_K_21 kp_K 0 (wK G a (uK_chance S ((x1 + (1000003 * (Int32.toInt64 x3))) + (101 * (Int32.toInt64 x4))))) 30 d_K_fill_27 rfl rfl rfl (znr_l _) (zft_l _) (Nat.le_of_ble_eq_true rfl) (wK_put_chance G a S ((x1 + (1000003 * (Int32.toInt64 x3))) + (101 * (Int32.toInt64 x4)))) ?_
    refine z_aload_n C 31 d_K_fill_30 rfl rfl ?_
    refine z_iload_n C 32 d_K_fill_31 rfl rfl ?_
    refine z_put C kf_K_25 kp_K 0 (wK G a (uK_kind (uK_chance S ((x1 + (1000003 * (Int32.toInt64 x3))) + (101 * (Int32.toInt64 x4)))) x3)) 35 d_K_fill_32 rfl rfl rfl (znr_i _) (zft_i _) (Nat.le_of_ble_eq_true rfl) (wK_put_kind G a (uK_chance S ((x1 + (1000003 * (Int32.toInt64 x3))) + (101 * (Int32.toInt64 x4)))) x3) ?_
    refine z_aload_n C 36 d_K_fill_35 rfl rfl ?_
    refine z_iload C 38 d_K_fill_36 rfl rfl ?_
    refine z_iconst C 1 39 d_K_fill_38 rfl (by decide) ?_
    refine z_iadd C 40 d_K_fill_39 rfl ?_
    refine z_put C kf_K_29 kp_K 0 (wK G a (uK_parts (uK_kind (uK_chance S ((x1 + (1000003 * (Int32.toInt64 x3))) + (101 * (Int32.toInt64 x4)))) x3) (x4 + 1))) 43 d_K_fill_40 rfl rfl rfl (znr_i _) (zft_i _) (Nat.le_of_ble_eq_true rfl) (wK_put_parts G a (uK_kind (uK_chance S ((x1 + (1000003 * (Int32.toInt64 x3))) + (101 * (Int32.toInt64 x4)))) x3) (x4 + 1)) ?_
    refine z_aload_n C 44 d_K_fill_43 rfl rfl ?_
    refine z_iconst C 0 45 d_K_fill_44 rfl (by decide) ?_
    refine z_put C kf_K_32 kp_K 0 (wK G a (uK_signsUsed (uK_parts (uK_kind (uK_chance S ((x1 + (1000003 * (Int32.toInt64 x3))) + (101 * (Int32.toInt64 x4)))) x3) (x4 + 1)) 0)) 48 d_K_fill_45 rfl rfl rfl (znr_i _) (zft_i _) (Nat.le_of_ble_eq_true rfl) (wK_put_signsUsed G a (uK_parts (uK_kind (uK_chance S ((x1 + (1000003 * (Int32.toInt64 x3))) + (101 * (Int32.toInt64 x4)))) x3) (x4 + 1)) 0) ?_
    refine z_iconst C 0 49 d_K_fill_48 rfl (by decide) ?_
    refine z_istore C [(5, .int 0), (0, .ref (a 0)), (1, .long x1), (3, .int x3), (4, .int x4)] 51 d_K_fill_49 rfl (by decide) rfl ?_
    refine z_lvs [1, 0] [(0, .ref (a 0)), (5, .int 0)] rfl ?_
    exact l_K_fill_51 G l a C hlk hr _ (uK_signsUsed (uK_parts (uK_kind (uK_chance S ((x1 + (1000003 * (Int32.toInt64 x3))) + (101 * (Int32.toInt64 x4)))) x3) (x4 + 1)) 0) 0 (Nat.lt_succ_self _) (by rw [show F_K_fill S x1 x3 x4 = (L_K_fill_51 ((Int32.toInt (sK_parts (uK_signsUsed (uK_parts (uK_kind (uK_chance S ((x1 + (1000003 * (Int32.toInt64 x3))) + (101 * (Int32.toInt64 x4)))) x3) (x4 + 1)) 0)) - Int32.toInt 0).toNat + 1) (uK_signsUsed (uK_parts (uK_kind (uK_chance S ((x1 + (1000003 * (Int32.toInt64 x3))) + (101 * (Int32.toInt64 x4)))) x3) (x4 + 1)) 0) 0) from by rw [F_K_fill, if_neg c_6]] at hq; exact hq)
  · exact z_vret C hlk hr d_K_fill_9 (by rw [show F_K_fill S x1 x3 x4 = S from by rw [F_K_fill, if_pos c_6]] at hq; exact hq)

def L_K_votes_24 : Nat → SK → Int32 → Int32 → Int32 → Int32 → Int32 → Int32 → Int32
  | 0, S, v2, v3, v4, v5, v6, v7 => 0
  | n + 1, S, v2, v3, v4, v5, v6, v7 =>
    if v3 ≤ v7 then
      v6
    else
      if ((v4 >>> ((2 * v7) &&& 31)) &&& v5) = v2 then
        (L_K_votes_24 n S v2 v3 v4 v5 (v6 + 1) (v7 + 1))
      else
        (L_K_votes_24 n S v2 v3 v4 v5 v6 (v7 + 1))
set_option maxRecDepth 100000 in
set_option maxHeartbeats 4000000 in
theorem l_K_votes_24 (G : zG) (l : Launch) (a : Nat → Nat) {p : Program} {e : Env} {s : State} {m : MethodId} {args : Array Value} {below : List Frame} {meth : Method} {c : Code} {w0 : va_W} {Post : Option Value → va_W → Prop} (C : zC p s m args meth c b_K_votes 8 N_K G (va_A w0 s.heap.size)) (hlk : meth.locks = false) (hr : meth.sig.returnType = some .int) :
    ∀ (n : Nat) (S : SK) (v2 : Int32) (v3 : Int32) (v4 : Int32) (v5 : Int32) (v6 : Int32) (v7 : Int32), (Int32.toInt v3 - Int32.toInt v7).toNat < n → Post (some (.int (L_K_votes_24 n S v2 v3 v4 v5 v6 v7))) (wK G a S) → zV p l e (zR 2 43) s m args below meth c 8 G (va_A w0 s.heap.size) (MQ below (zQ G w0 s.heap.size Post) args s 0 0 (va_A w0 s.heap.size)) 0 0 (wK G a S) 24 [(0, .ref (a 0)), (2, .int v2), (3, .int v3), (4, .int v4), (5, .int v5), (6, .int v6), (7, .int v7)] [] := by
  intro n
  induction n with
  | zero => intro S v2 v3 v4 v5 v6 v7 h; exact absurd h (Nat.not_lt_zero _)
  | succ n ih =>
    intro S v2 v3 v4 v5 v6 v7 hmu hq
    refine z_iload C 26 d_K_votes_24 rfl rfl ?_
    refine z_iload_n C 27 d_K_votes_26 rfl rfl ?_
    refine z_icmp_ge C 53 30 d_K_votes_27 (by decide) rfl (fun c_27 => ?_) (fun c_27 => ?_)
    · refine z_iload C 55 d_K_votes_53 rfl rfl ?_
      exact z_iret C hlk hr d_K_votes_55 (by rw [show L_K_votes_24 (n + 1) S v2 v3 v4 v5 v6 v7 = v6 from by rw [L_K_votes_24, if_pos c_27]] at hq; exact hq)
    · refine z_iload C 32 d_K_votes_30 rfl rfl ?_
      refine z_iconst C 2 33 d_K_votes_32 rfl (by decide) ?_
      refine z_iload C 35 d_K_votes_33 rfl rfl ?_
      refine z_imul C 36 d_K_votes_35 rfl ?_
      refine z_ishr C 37 d_K_votes_36 rfl ?_
      refine z_iload C 39 d_K_votes_37 rfl rfl ?_
      refine z_iand C 40 d_K_votes_39 rfl ?_
      refine z_iload_n C 41 d_K_votes_40 rfl rfl ?_
      refine z_icmp_ne C 47 44 d_K_votes_41 (by decide) rfl (fun c_41 => ?_) (fun c_41 => ?_)
      · refine z_iinc C (v7 + 1) [(7, .int (v7 + 1)), (0, .ref (a 0)), (2, .int v2), (3, .int v3), (4, .int v4), (5, .int v5), (6, .int v6)] 50 d_K_votes_47 rfl (by decide) rfl rfl rfl ?_
        refine z_goto C 24 d_K_votes_50 (by decide) ?_
        refine z_lvs [1, 2, 3, 4, 5, 6, 0] [(0, .ref (a 0)), (2, .int v2), (3, .int v3), (4, .int v4), (5, .int v5), (6, .int v6), (7, .int (v7 + 1))] rfl ?_
        exact ih S v2 v3 v4 v5 v6 (v7 + 1) (zdec c_27 hmu) (by rw [show L_K_votes_24 (n + 1) S v2 v3 v4 v5 v6 v7 = (L_K_votes_24 n S v2 v3 v4 v5 v6 (v7 + 1)) from by rw [L_K_votes_24, if_neg c_27, if_neg c_41]] at hq; exact hq)
      · refine z_iinc C (v6 + 1) [(6, .int (v6 + 1)), (0, .ref (a 0)), (2, .int v2), (3, .int v3), (4, .int v4), (5, .int v5), (7, .int v7)] 47 d_K_votes_44 rfl (by decide) rfl rfl rfl ?_
        refine z_iinc C (v7 + 1) [(7, .int (v7 + 1)), (6, .int (v6 + 1)), (0, .ref (a 0)), (2, .int v2), (3, .int v3), (4, .int v4), (5, .int v5)] 50 d_K_votes_47 rfl (by decide) rfl rfl rfl ?_
        refine z_goto C 24 d_K_votes_50 (by decide) ?_
        refine z_lvs [2, 3, 4, 5, 6, 1, 0] [(0, .ref (a 0)), (2, .int v2), (3, .int v3), (4, .int v4), (5, .int v5), (6, .int (v6 + 1)), (7, .int (v7 + 1))] rfl ?_
        exact ih S v2 v3 v4 v5 (v6 + 1) (v7 + 1) (zdec c_27 hmu) (by rw [show L_K_votes_24 (n + 1) S v2 v3 v4 v5 v6 v7 = (L_K_votes_24 n S v2 v3 v4 v5 (v6 + 1) (v7 + 1)) from by rw [L_K_votes_24, if_neg c_27, if_pos c_41]] at hq; exact hq)
def F_K_votes (S : SK) (x1 : Int32) (x2 : Int32) : Int32 :=
  (L_K_votes_24 ((Int32.toInt (F_K_number S x1 0) - Int32.toInt 0).toNat + 1) S x2 (F_K_number S x1 0) (F_K_number S x1 1) 3 0 0)
set_option maxRecDepth 100000 in
set_option maxHeartbeats 4000000 in
theorem c_K_votes (G : zG) (l : Launch) (a : Nat → Nat) (S : SK) (x1 : Int32) (x2 : Int32)  : zM G l y_K_votes b_K_votes 8 (some .int) (zR 2 43) [.ref (a 0), .int x1, .int x2] (wK G a S) (fun r1 w1 => r1 = some (.int (F_K_votes S x1 x2)) ∧ w1 = wK G a S) := by
  generalize hPost : (fun (r1 : Option Value) (w1 : va_W) => r1 = some (.int (F_K_votes S x1 x2)) ∧ w1 = wK G a S) = Post
  have hq : Post (some (.int (F_K_votes S x1 x2))) (wK G a S) := by rw [← hPost]; exact ⟨rfl, rfl⟩
  clear hPost
  refine zM_of (by decide) (Nat.le_of_ble_eq_true rfl) ?_
  intro p e s m args below meth c C hlk hr hin
  refine z_aload_n C 1 d_K_votes_0 rfl rfl ?_
  refine z_iload_n C 2 d_K_votes_1 rfl rfl ?_
  refine z_iconst C 0 3 d_K_votes_2 rfl (by decide) ?_
  refine z_goA C (z_V C kc_K_83 (c_K_number G l a S x1 0) (st := []) 0 0 rfl rfl rfl rfl (Nat.le_of_ble_eq_true rfl) ⟨⟨Nat.le_of_ble_eq_true rfl, Nat.le_of_ble_eq_true rfl⟩, Nat.le_of_ble_eq_true rfl, Nat.le_of_ble_eq_true rfl⟩ d_K_votes_3) [.int (F_K_number S x1 0)] 6 rfl rfl ?_
  refine z_istore_n C [(3, .int (F_K_number S x1 0)), (0, .ref (a 0)), (1, .int x1), (2, .int x2)] 7 d_K_votes_6 rfl (by decide) rfl ?_
  refine z_aload_n C 8 d_K_votes_7 rfl rfl ?_
  refine z_iload_n C 9 d_K_votes_8 rfl rfl ?_
  refine z_iconst C 1 10 d_K_votes_9 rfl (by decide) ?_
  refine z_goA C (z_V C kc_K_83 (c_K_number G l a S x1 1) (st := []) 0 0 rfl rfl rfl rfl (Nat.le_of_ble_eq_true rfl) ⟨⟨Nat.le_of_ble_eq_true rfl, Nat.le_of_ble_eq_true rfl⟩, Nat.le_of_ble_eq_true rfl, Nat.le_of_ble_eq_true rfl⟩ d_K_votes_10) [.int (F_K_number S x1 1)] 13 rfl rfl ?_
  refine z_istore C [(4, .int (F_K_number S x1 1)), (3, .int (F_K_number S x1 0)), (0, .ref (a 0)), (1, .int x1), (2, .int x2)] 15 d_K_votes_13 rfl (by decide) rfl ?_
  refine z_iconst C 3 16 d_K_votes_15 rfl (by decide) ?_
  refine z_istore C [(5, .int 3), (4, .int (F_K_number S x1 1)), (3, .int (F_K_number S x1 0)), (0, .ref (a 0)), (1, .int x1), (2, .int x2)] 18 d_K_votes_16 rfl (by decide) rfl ?_
  refine z_iconst C 0 19 d_K_votes_18 rfl (by decide) ?_
  refine z_istore C [(6, .int 0), (5, .int 3), (4, .int (F_K_number S x1 1)), (3, .int (F_K_number S x1 0)), (0, .ref (a 0)), (1, .int x1), (2, .int x2)] 21 d_K_votes_19 rfl (by decide) rfl ?_
  refine z_iconst C 0 22 d_K_votes_21 rfl (by decide) ?_
  refine z_istore C [(7, .int 0), (6, .int 0), (5, .int 3), (4, .int (F_K_number S x1 1)), (3, .int (F_K_number S x1 0)), (0, .ref (a 0)), (1, .int x1), (2, .int x2)] 24 d_K_votes_22 rfl (by decide) rfl ?_
  refine z_lvs [5, 7, 4, 3, 2, 1, 0] [(0, .ref (a 0)), (2, .int x2), (3, .int (F_K_number S x1 0)), (4, .int (F_K_number S x1 1)), (5, .int 3), (6, .int 0), (7, .int 0)] rfl ?_
  exact l_K_votes_24 G l a C hlk hr _ S x2 (F_K_number S x1 0) (F_K_number S x1 1) 3 0 0 (Nat.lt_succ_self _) (by rw [show F_K_votes S x1 x2 = (L_K_votes_24 ((Int32.toInt (F_K_number S x1 0) - Int32.toInt 0).toNat + 1) S x2 (F_K_number S x1 0) (F_K_number S x1 1) 3 0 0) from by rw [F_K_votes]] at hq; exact hq)

def L_K_winner_20 : Nat → SK → Int32 → Int32 → Int32
  | 0, S, v1, v2 => 0
  | n + 1, S, v1, v2 =>
    if 3 ≤ v2 then
      (-1)
    else
      if (2 * (F_K_votes S v1 v2)) ≤ (F_K_number S v1 0) then
        (L_K_winner_20 n S v1 (v2 + 1))
      else
        v2
set_option maxRecDepth 100000 in
set_option maxHeartbeats 4000000 in
theorem l_K_winner_20 (G : zG) (l : Launch) (a : Nat → Nat) {p : Program} {e : Env} {s : State} {m : MethodId} {args : Array Value} {below : List Frame} {meth : Method} {c : Code} {w0 : va_W} {Post : Option Value → va_W → Prop} (C : zC p s m args meth c b_K_winner 3 N_K G (va_A w0 s.heap.size)) (hlk : meth.locks = false) (hr : meth.sig.returnType = some .int) :
    ∀ (n : Nat) (S : SK) (v1 : Int32) (v2 : Int32), (Int32.toInt 3 - Int32.toInt v2).toNat < n → Post (some (.int (L_K_winner_20 n S v1 v2))) (wK G a S) → zV p l e (zR 3 70) s m args below meth c 3 G (va_A w0 s.heap.size) (MQ below (zQ G w0 s.heap.size Post) args s 0 0 (va_A w0 s.heap.size)) 0 0 (wK G a S) 20 [(0, .ref (a 0)), (1, .int v1), (2, .int v2)] [] := by
  intro n
  induction n with
  | zero => intro S v1 v2 h; exact absurd h (Nat.not_lt_zero _)
  | succ n ih =>
    intro S v1 v2 hmu hq
    refine z_iload_n C 21 d_K_winner_20 rfl rfl ?_
    refine z_iconst C 3 22 d_K_winner_21 rfl (by decide) ?_
    refine z_icmp_ge C 50 25 d_K_winner_22 (by decide) rfl (fun c_22 => ?_) (fun c_22 => ?_)
    · refine z_iconst C (-1) 51 d_K_winner_50 rfl (by decide) ?_
      exact z_iret C hlk hr d_K_winner_51 (by rw [show L_K_winner_20 (n + 1) S v1 v2 = (-1) from by rw [L_K_winner_20, if_pos c_22]] at hq; exact hq)
    · refine z_iconst C 2 26 d_K_winner_25 rfl (by decide) ?_
      refine z_aload_n C 27 d_K_winner_26 rfl rfl ?_
      refine z_iload_n C 28 d_K_winner_27 rfl rfl ?_
      refine z_iload_n C 29 d_K_winner_28 rfl rfl ?_
      refine z_goA C (z_V C kc_K_106 (c_K_votes G l a S v1 v2) (st := [.int 2]) 0 0 rfl rfl rfl rfl (Nat.le_of_ble_eq_true rfl) ⟨⟨Nat.le_of_ble_eq_true rfl, Nat.le_of_ble_eq_true rfl⟩, Nat.le_of_ble_eq_true rfl, Nat.le_of_ble_eq_true rfl⟩ d_K_winner_29) [.int (F_K_votes S v1 v2), .int 2] 32 rfl rfl ?_
      refine z_imul C 33 d_K_winner_32 rfl ?_
      refine z_aload_n C 34 d_K_winner_33 rfl rfl ?_
      refine z_iload_n C 35 d_K_winner_34 rfl rfl ?_
      refine z_iconst C 0 36 d_K_winner_35 rfl (by decide) ?_
      refine z_goA C (z_V C kc_K_83 (c_K_number G l a S v1 0) (st := [.int (2 * (F_K_votes S v1 v2))]) 0 0 rfl rfl rfl rfl (Nat.le_of_ble_eq_true rfl) ⟨⟨Nat.le_of_ble_eq_true rfl, Nat.le_of_ble_eq_true rfl⟩, Nat.le_of_ble_eq_true rfl, Nat.le_of_ble_eq_true rfl⟩ d_K_winner_36) [.int (F_K_number S v1 0), .int (2 * (F_K_votes S v1 v2))] 39 rfl rfl ?_
      refine z_icmp_le C 44 42 d_K_winner_39 (by decide) rfl (fun c_39 => ?_) (fun c_39 => ?_)
      · refine z_iinc C (v2 + 1) [(2, .int (v2 + 1)), (0, .ref (a 0)), (1, .int v1)] 47 d_K_winner_44 rfl (by decide) rfl rfl rfl ?_
        refine z_goto C 20 d_K_winner_47 (by decide) ?_
        refine z_lvs [1, 2, 0] [(0, .ref (a 0)), (1, .int v1), (2, .int (v2 + 1))] rfl ?_
        exact ih S v1 (v2 + 1) (zdec c_22 hmu) (by rw [show L_K_winner_20 (n + 1) S v1 v2 = (L_K_winner_20 n S v1 (v2 + 1)) from by rw [L_K_winner_20, if_neg c_22, if_pos c_39]] at hq; exact hq)
      · refine z_iload_n C 43 d_K_winner_42 rfl rfl ?_
        exact z_iret C hlk hr d_K_winner_43 (by rw [show L_K_winner_20 (n + 1) S v1 v2 = v2 from by rw [L_K_winner_20, if_neg c_22, if_neg c_39]] at hq; exact hq)
def F_K_winner (S : SK) (x1 : Int32) : Int32 :=
  if (sK_kind S) = 1 then
    if (F_K_has S x1) = 0 then
      (-1)
    else
      (L_K_winner_20 ((Int32.toInt 3 - Int32.toInt 0).toNat + 1) S x1 0)
  else
    (-1)
set_option maxRecDepth 100000 in
set_option maxHeartbeats 4000000 in
theorem c_K_winner (G : zG) (l : Launch) (a : Nat → Nat) (S : SK) (x1 : Int32)  : zM G l y_K_winner b_K_winner 3 (some .int) (zR 3 70) [.ref (a 0), .int x1] (wK G a S) (fun r1 w1 => r1 = some (.int (F_K_winner S x1)) ∧ w1 = wK G a S) := by
  generalize hPost : (fun (r1 : Option Value) (w1 : va_W) => r1 = some (.int (F_K_winner S x1)) ∧ w1 = wK G a S) = Post
  have hq : Post (some (.int (F_K_winner S x1))) (wK G a S) := by rw [← hPost]; exact ⟨rfl, rfl⟩
  clear hPost
  refine zM_of (by decide) (Nat.le_of_ble_eq_true rfl) ?_
  intro p e s m args below meth c C hlk hr hin
  refine z_aload_n C 1 d_K_winner_0 rfl rfl ?_
  refine z_get C kf_K_25 0 (v := .int (sK_kind S)) 4 d_K_winner_1 rfl rfl rfl ?_
  refine z_iconst C 1 5 d_K_winner_4 rfl (by decide) ?_
  refine z_icmp_ne C 16 8 d_K_winner_5 (by decide) rfl (fun c_5 => ?_) (fun c_5 => ?_)
  · refine z_iconst C (-1) 17 d_K_winner_16 rfl (by decide) ?_
    exact z_iret C hlk hr d_K_winner_17 (by rw [show F_K_winner S x1 = (-1) from by rw [F_K_winner, if_neg c_5]] at hq; exact hq)
  · refine z_aload_n C 9 d_K_winner_8 rfl rfl ?_
    refine z_iload_n C 10 d_K_winner_9 rfl rfl ?_
    refine z_goA C (z_V C kc_K_35 (c_K_has G l a S x1) (st := []) 0 0 rfl rfl rfl rfl (Nat.le_of_ble_eq_true rfl) ⟨⟨Nat.le_of_ble_eq_true rfl, Nat.le_of_ble_eq_true rfl⟩, Nat.le_of_ble_eq_true rfl, Nat.le_of_ble_eq_true rfl⟩ d_K_winner_10) [.int (F_K_has S x1)] 13 rfl rfl ?_
    refine z_if_ne C 18 16 d_K_winner_13 (by decide) rfl (fun c_13 => ?_) (fun c_13 => ?_)
    · refine z_iconst C 0 19 d_K_winner_18 rfl (by decide) ?_
      refine z_istore_n C [(2, .int 0), (0, .ref (a 0)), (1, .int x1)] 20 d_K_winner_19 rfl (by decide) rfl ?_
      refine z_lvs [1, 2, 0] [(0, .ref (a 0)), (1, .int x1), (2, .int 0)] rfl ?_
      exact l_K_winner_20 G l a C hlk hr _ S x1 0 (Nat.lt_succ_self _) (by rw [show F_K_winner S x1 = (L_K_winner_20 ((Int32.toInt 3 - Int32.toInt 0).toNat + 1) S x1 0) from by rw [F_K_winner, if_pos c_5, if_neg c_13]] at hq; exact hq)
    · refine z_iconst C (-1) 17 d_K_winner_16 rfl (by decide) ?_
      exact z_iret C hlk hr d_K_winner_17 (by rw [show F_K_winner S x1 = (-1) from by rw [F_K_winner, if_pos c_5, if_pos c_13]] at hq; exact hq)

def F_K_shows (S : SK) (x1 : Int32) (x2 : Int32) : Int32 :=
  if x2 = 0 then
    if (sK_kind S) = 0 then
      if (F_K_number S x1 0) = 0 then
        1
      else
        0
    else
      0
  else
    if x2 = 1 then
      if (sK_kind S) = 0 then
        if (F_K_number S x1 1) = 0 then
          1
        else
          0
      else
        0
    else
      if x2 = 2 then
        if (sK_kind S) = 0 then
          if (F_K_number S x1 2) = (-1) then
            0
          else
            1
        else
          0
      else
        if x2 = 3 then
          if (sK_kind S) = 1 then
            if (F_K_winner S x1) = (-1) then
              1
            else
              0
          else
            0
        else
          if x2 = 4 then
            if (F_K_isPattern S x1) = 0 then
              0
            else
              if (F_K_lastDay S x1) = 1500 then
                1
              else
                0
          else
            if x2 = 5 then
              if (sK_kind S) = 3 then
                if (F_K_number S x1 2) = 0 then
                  0
                else
                  1
              else
                0
            else
              if x2 = 6 then
                if (sK_kind S) = 4 then
                  if (F_K_number S x1 1) = (-1) then
                    0
                  else
                    1
                else
                  0
              else
                if x2 = 7 then
                  if (sK_kind S) = 5 then
                    if (F_K_number S x1 2) = (F_K_timeBefore S x1) then
                      1
                    else
                      0
                  else
                    0
                else
                  0
set_option maxRecDepth 100000 in
set_option maxHeartbeats 4000000 in
theorem c_K_shows (G : zG) (l : Launch) (a : Nat → Nat) (S : SK) (x1 : Int32) (x2 : Int32)  : zM G l y_K_shows b_K_shows 3 (some .boolean) (zR 4 92) [.ref (a 0), .int x1, .int x2] (wK G a S) (fun r1 w1 => r1 = some (.int (F_K_shows S x1 x2)) ∧ w1 = wK G a S) := by
  generalize hPost : (fun (r1 : Option Value) (w1 : va_W) => r1 = some (.int (F_K_shows S x1 x2)) ∧ w1 = wK G a S) = Post
  have hq : Post (some (.int (F_K_shows S x1 x2))) (wK G a S) := by rw [← hPost]; exact ⟨rfl, rfl⟩
  clear hPost
  refine zM_of (by decide) (Nat.le_of_ble_eq_true rfl) ?_
  intro p e s m args below meth c C hlk hr hin
  refine z_iload_n C 1 d_K_shows_0 rfl rfl ?_
  by_cases c_1_0 : x2 = 0
  · refine z_tableIn C 48 d_K_shows_1 (by rw [c_1_0]; decide) (by rw [c_1_0]; decide) (by rw [c_1_0]; rfl) (by decide) ?_
    refine z_aload_n C 49 d_K_shows_48 rfl rfl ?_
    refine z_get C kf_K_25 0 (v := .int (sK_kind S)) 52 d_K_shows_49 rfl rfl rfl ?_
    refine z_if_ne C 68 55 d_K_shows_52 (by decide) rfl (fun c_52 => ?_) (fun c_52 => ?_)
    · refine z_iconst C 0 69 d_K_shows_68 rfl (by decide) ?_
      exact z_zret C hlk rfl hr d_K_shows_69 (by rw [show F_K_shows S x1 x2 = 0 from by rw [F_K_shows, if_pos c_1_0, if_neg c_52]] at hq; exact hq)
    · refine z_aload_n C 56 d_K_shows_55 rfl rfl ?_
      refine z_iload_n C 57 d_K_shows_56 rfl rfl ?_
      refine z_iconst C 0 58 d_K_shows_57 rfl (by decide) ?_
      refine z_goA C (z_V C kc_K_83 (c_K_number G l a S x1 0) (st := []) 0 0 rfl rfl rfl rfl (Nat.le_of_ble_eq_true rfl) ⟨⟨Nat.le_of_ble_eq_true rfl, Nat.le_of_ble_eq_true rfl⟩, Nat.le_of_ble_eq_true rfl, Nat.le_of_ble_eq_true rfl⟩ d_K_shows_58) [.int (F_K_number S x1 0)] 61 rfl rfl ?_
      refine z_if_ne C 68 64 d_K_shows_61 (by decide) rfl (fun c_61 => ?_) (fun c_61 => ?_)
      · refine z_iconst C 0 69 d_K_shows_68 rfl (by decide) ?_
        exact z_zret C hlk rfl hr d_K_shows_69 (by rw [show F_K_shows S x1 x2 = 0 from by rw [F_K_shows, if_pos c_1_0, if_pos c_52, if_neg c_61]] at hq; exact hq)
      · refine z_iconst C 1 65 d_K_shows_64 rfl (by decide) ?_
        refine z_goto C 69 d_K_shows_65 (by decide) ?_
        exact z_zret C hlk rfl hr d_K_shows_69 (by rw [show F_K_shows S x1 x2 = 1 from by rw [F_K_shows, if_pos c_1_0, if_pos c_52, if_pos c_61]] at hq; exact hq)
  by_cases c_1_1 : x2 = 1
  · refine z_tableIn C 70 d_K_shows_1 (by rw [c_1_1]; decide) (by rw [c_1_1]; decide) (by rw [c_1_1]; rfl) (by decide) ?_
    refine z_aload_n C 71 d_K_shows_70 rfl rfl ?_
    refine z_get C kf_K_25 0 (v := .int (sK_kind S)) 74 d_K_shows_71 rfl rfl rfl ?_
    refine z_if_ne C 90 77 d_K_shows_74 (by decide) rfl (fun c_74 => ?_) (fun c_74 => ?_)
    · refine z_iconst C 0 91 d_K_shows_90 rfl (by decide) ?_
      exact z_zret C hlk rfl hr d_K_shows_91 (by rw [show F_K_shows S x1 x2 = 0 from by rw [F_K_shows, if_neg c_1_0, if_pos c_1_1, if_neg c_74]] at hq; exact hq)
    · refine z_aload_n C 78 d_K_shows_77 rfl rfl ?_
      refine z_iload_n C 79 d_K_shows_78 rfl rfl ?_
      refine z_iconst C 1 80 d_K_shows_79 rfl (by decide) ?_
      refine z_goA C (z_V C kc_K_83 (c_K_number G l a S x1 1) (st := []) 0 0 rfl rfl rfl rfl (Nat.le_of_ble_eq_true rfl) ⟨⟨Nat.le_of_ble_eq_true rfl, Nat.le_of_ble_eq_true rfl⟩, Nat.le_of_ble_eq_true rfl, Nat.le_of_ble_eq_true rfl⟩ d_K_shows_80) [.int (F_K_number S x1 1)] 83 rfl rfl ?_
      refine z_if_ne C 90 86 d_K_shows_83 (by decide) rfl (fun c_83 => ?_) (fun c_83 => ?_)
      · refine z_iconst C 0 91 d_K_shows_90 rfl (by decide) ?_
        exact z_zret C hlk rfl hr d_K_shows_91 (by rw [show F_K_shows S x1 x2 = 0 from by rw [F_K_shows, if_neg c_1_0, if_pos c_1_1, if_pos c_74, if_neg c_83]] at hq; exact hq)
      · refine z_iconst C 1 87 d_K_shows_86 rfl (by decide) ?_
        refine z_goto C 91 d_K_shows_87 (by decide) ?_
        exact z_zret C hlk rfl hr d_K_shows_91 (by rw [show F_K_shows S x1 x2 = 1 from by rw [F_K_shows, if_neg c_1_0, if_pos c_1_1, if_pos c_74, if_pos c_83]] at hq; exact hq)
  by_cases c_1_2 : x2 = 2
  · refine z_tableIn C 92 d_K_shows_1 (by rw [c_1_2]; decide) (by rw [c_1_2]; decide) (by rw [c_1_2]; rfl) (by decide) ?_
    refine z_aload_n C 93 d_K_shows_92 rfl rfl ?_
    refine z_get C kf_K_25 0 (v := .int (sK_kind S)) 96 d_K_shows_93 rfl rfl rfl ?_
    refine z_if_ne C 113 99 d_K_shows_96 (by decide) rfl (fun c_96 => ?_) (fun c_96 => ?_)
    · refine z_iconst C 0 114 d_K_shows_113 rfl (by decide) ?_
      exact z_zret C hlk rfl hr d_K_shows_114 (by rw [show F_K_shows S x1 x2 = 0 from by rw [F_K_shows, if_neg c_1_0, if_neg c_1_1, if_pos c_1_2, if_neg c_96]] at hq; exact hq)
    · refine z_aload_n C 100 d_K_shows_99 rfl rfl ?_
      refine z_iload_n C 101 d_K_shows_100 rfl rfl ?_
      refine z_iconst C 2 102 d_K_shows_101 rfl (by decide) ?_
      refine z_goA C (z_V C kc_K_83 (c_K_number G l a S x1 2) (st := []) 0 0 rfl rfl rfl rfl (Nat.le_of_ble_eq_true rfl) ⟨⟨Nat.le_of_ble_eq_true rfl, Nat.le_of_ble_eq_true rfl⟩, Nat.le_of_ble_eq_true rfl, Nat.le_of_ble_eq_true rfl⟩ d_K_shows_102) [.int (F_K_number S x1 2)] 105 rfl rfl ?_
      refine z_iconst C (-1) 106 d_K_shows_105 rfl (by decide) ?_
      refine z_icmp_eq C 113 109 d_K_shows_106 (by decide) rfl (fun c_106 => ?_) (fun c_106 => ?_)
      · refine z_iconst C 0 114 d_K_shows_113 rfl (by decide) ?_
        exact z_zret C hlk rfl hr d_K_shows_114 (by rw [show F_K_shows S x1 x2 = 0 from by rw [F_K_shows, if_neg c_1_0, if_neg c_1_1, if_pos c_1_2, if_pos c_96, if_pos c_106]] at hq; exact hq)
      · refine z_iconst C 1 110 d_K_shows_109 rfl (by decide) ?_
        refine z_goto C 114 d_K_shows_110 (by decide) ?_
        exact z_zret C hlk rfl hr d_K_shows_114 (by rw [show F_K_shows S x1 x2 = 1 from by rw [F_K_shows, if_neg c_1_0, if_neg c_1_1, if_pos c_1_2, if_pos c_96, if_neg c_106]] at hq; exact hq)
  by_cases c_1_3 : x2 = 3
  · refine z_tableIn C 115 d_K_shows_1 (by rw [c_1_3]; decide) (by rw [c_1_3]; decide) (by rw [c_1_3]; rfl) (by decide) ?_
    refine z_aload_n C 116 d_K_shows_115 rfl rfl ?_
    refine z_get C kf_K_25 0 (v := .int (sK_kind S)) 119 d_K_shows_116 rfl rfl rfl ?_
    refine z_iconst C 1 120 d_K_shows_119 rfl (by decide) ?_
    refine z_icmp_ne C 136 123 d_K_shows_120 (by decide) rfl (fun c_120 => ?_) (fun c_120 => ?_)
    · refine z_iconst C 0 137 d_K_shows_136 rfl (by decide) ?_
      exact z_zret C hlk rfl hr d_K_shows_137 (by rw [show F_K_shows S x1 x2 = 0 from by rw [F_K_shows, if_neg c_1_0, if_neg c_1_1, if_neg c_1_2, if_pos c_1_3, if_neg c_120]] at hq; exact hq)
    · refine z_aload_n C 124 d_K_shows_123 rfl rfl ?_
      refine z_iload_n C 125 d_K_shows_124 rfl rfl ?_
      refine z_goA C (z_V C kc_K_109 (c_K_winner G l a S x1) (st := []) 0 0 rfl rfl rfl rfl (Nat.le_of_ble_eq_true rfl) ⟨⟨Nat.le_of_ble_eq_true rfl, Nat.le_of_ble_eq_true rfl⟩, Nat.le_of_ble_eq_true rfl, Nat.le_of_ble_eq_true rfl⟩ d_K_shows_125) [.int (F_K_winner S x1)] 128 rfl rfl ?_
      refine z_iconst C (-1) 129 d_K_shows_128 rfl (by decide) ?_
      refine z_icmp_ne C 136 132 d_K_shows_129 (by decide) rfl (fun c_129 => ?_) (fun c_129 => ?_)
      · refine z_iconst C 0 137 d_K_shows_136 rfl (by decide) ?_
        exact z_zret C hlk rfl hr d_K_shows_137 (by rw [show F_K_shows S x1 x2 = 0 from by rw [F_K_shows, if_neg c_1_0, if_neg c_1_1, if_neg c_1_2, if_pos c_1_3, if_pos c_120, if_neg c_129]] at hq; exact hq)
      · refine z_iconst C 1 133 d_K_shows_132 rfl (by decide) ?_
        refine z_goto C 137 d_K_shows_133 (by decide) ?_
        exact z_zret C hlk rfl hr d_K_shows_137 (by rw [show F_K_shows S x1 x2 = 1 from by rw [F_K_shows, if_neg c_1_0, if_neg c_1_1, if_neg c_1_2, if_pos c_1_3, if_pos c_120, if_pos c_129]] at hq; exact hq)
  by_cases c_1_4 : x2 = 4
  · refine z_tableIn C 138 d_K_shows_1 (by rw [c_1_4]; decide) (by rw [c_1_4]; decide) (by rw [c_1_4]; rfl) (by decide) ?_
    refine z_aload_n C 139 d_K_shows_138 rfl rfl ?_
    refine z_iload_n C 140 d_K_shows_139 rfl rfl ?_
    refine z_goA C (z_V C kc_K_112 (c_K_isPattern G l a S x1) (st := []) 0 0 rfl rfl rfl rfl (Nat.le_of_ble_eq_true rfl) ⟨⟨Nat.le_of_ble_eq_true rfl, Nat.le_of_ble_eq_true rfl⟩, Nat.le_of_ble_eq_true rfl, Nat.le_of_ble_eq_true rfl⟩ d_K_shows_140) [.int (F_K_isPattern S x1)] 143 rfl rfl ?_
    refine z_if_eq C 161 146 d_K_shows_143 (by decide) rfl (fun c_143 => ?_) (fun c_143 => ?_)
    · refine z_iconst C 0 162 d_K_shows_161 rfl (by decide) ?_
      exact z_zret C hlk rfl hr d_K_shows_162 (by rw [show F_K_shows S x1 x2 = 0 from by rw [F_K_shows, if_neg c_1_0, if_neg c_1_1, if_neg c_1_2, if_neg c_1_3, if_pos c_1_4, if_pos c_143]] at hq; exact hq)
    · refine z_aload_n C 147 d_K_shows_146 rfl rfl ?_
      refine z_iload_n C 148 d_K_shows_147 rfl rfl ?_
      refine z_goA C (z_V C kc_K_115 (c_K_lastDay G l a S x1) (st := []) 0 0 rfl rfl rfl rfl (Nat.le_of_ble_eq_true rfl) ⟨⟨Nat.le_of_ble_eq_true rfl, Nat.le_of_ble_eq_true rfl⟩, Nat.le_of_ble_eq_true rfl, Nat.le_of_ble_eq_true rfl⟩ d_K_shows_148) [.int (F_K_lastDay S x1)] 151 rfl rfl ?_
      refine z_sipush C 1500 154 d_K_shows_151 rfl (by decide) ?_
      refine z_icmp_ne C 161 157 d_K_shows_154 (by decide) rfl (fun c_154 => ?_) (fun c_154 => ?_)
      · refine z_iconst C 0 162 d_K_shows_161 rfl (by decide) ?_
        exact z_zret C hlk rfl hr d_K_shows_162 (by rw [show F_K_shows S x1 x2 = 0 from by rw [F_K_shows, if_neg c_1_0, if_neg c_1_1, if_neg c_1_2, if_neg c_1_3, if_pos c_1_4, if_neg c_143, if_neg c_154]] at hq; exact hq)
      · refine z_iconst C 1 158 d_K_shows_157 rfl (by decide) ?_
        refine z_goto C 162 d_K_shows_158 (by decide) ?_
        exact z_zret C hlk rfl hr d_K_shows_162 (by rw [show F_K_shows S x1 x2 = 1 from by rw [F_K_shows, if_neg c_1_0, if_neg c_1_1, if_neg c_1_2, if_neg c_1_3, if_pos c_1_4, if_neg c_143, if_pos c_154]] at hq; exact hq)
  by_cases c_1_5 : x2 = 5
  · refine z_tableIn C 163 d_K_shows_1 (by rw [c_1_5]; decide) (by rw [c_1_5]; decide) (by rw [c_1_5]; rfl) (by decide) ?_
    refine z_aload_n C 164 d_K_shows_163 rfl rfl ?_
    refine z_get C kf_K_25 0 (v := .int (sK_kind S)) 167 d_K_shows_164 rfl rfl rfl ?_
    refine z_iconst C 3 168 d_K_shows_167 rfl (by decide) ?_
    refine z_icmp_ne C 184 171 d_K_shows_168 (by decide) rfl (fun c_168 => ?_) (fun c_168 => ?_)
    · refine z_iconst C 0 185 d_K_shows_184 rfl (by decide) ?_
      exact z_zret C hlk rfl hr d_K_shows_185 (by rw [show F_K_shows S x1 x2 = 0 from by rw [F_K_shows, if_neg c_1_0, if_neg c_1_1, if_neg c_1_2, if_neg c_1_3, if_neg c_1_4, if_pos c_1_5, if_neg c_168]] at hq; exact hq)
    · refine z_aload_n C 172 d_K_shows_171 rfl rfl ?_
      refine z_iload_n C 173 d_K_shows_172 rfl rfl ?_
      refine z_iconst C 2 174 d_K_shows_173 rfl (by decide) ?_
      refine z_goA C (z_V C kc_K_83 (c_K_number G l a S x1 2) (st := []) 0 0 rfl rfl rfl rfl (Nat.le_of_ble_eq_true rfl) ⟨⟨Nat.le_of_ble_eq_true rfl, Nat.le_of_ble_eq_true rfl⟩, Nat.le_of_ble_eq_true rfl, Nat.le_of_ble_eq_true rfl⟩ d_K_shows_174) [.int (F_K_number S x1 2)] 177 rfl rfl ?_
      refine z_if_eq C 184 180 d_K_shows_177 (by decide) rfl (fun c_177 => ?_) (fun c_177 => ?_)
      · refine z_iconst C 0 185 d_K_shows_184 rfl (by decide) ?_
        exact z_zret C hlk rfl hr d_K_shows_185 (by rw [show F_K_shows S x1 x2 = 0 from by rw [F_K_shows, if_neg c_1_0, if_neg c_1_1, if_neg c_1_2, if_neg c_1_3, if_neg c_1_4, if_pos c_1_5, if_pos c_168, if_pos c_177]] at hq; exact hq)
      · refine z_iconst C 1 181 d_K_shows_180 rfl (by decide) ?_
        refine z_goto C 185 d_K_shows_181 (by decide) ?_
        exact z_zret C hlk rfl hr d_K_shows_185 (by rw [show F_K_shows S x1 x2 = 1 from by rw [F_K_shows, if_neg c_1_0, if_neg c_1_1, if_neg c_1_2, if_neg c_1_3, if_neg c_1_4, if_pos c_1_5, if_pos c_168, if_neg c_177]] at hq; exact hq)
  by_cases c_1_6 : x2 = 6
  · refine z_tableIn C 186 d_K_shows_1 (by rw [c_1_6]; decide) (by rw [c_1_6]; decide) (by rw [c_1_6]; rfl) (by decide) ?_
    refine z_aload_n C 187 d_K_shows_186 rfl rfl ?_
    refine z_get C kf_K_25 0 (v := .int (sK_kind S)) 190 d_K_shows_187 rfl rfl rfl ?_
    refine z_iconst C 4 191 d_K_shows_190 rfl (by decide) ?_
    refine z_icmp_ne C 208 194 d_K_shows_191 (by decide) rfl (fun c_191 => ?_) (fun c_191 => ?_)
    · refine z_iconst C 0 209 d_K_shows_208 rfl (by decide) ?_
      exact z_zret C hlk rfl hr d_K_shows_209 (by rw [show F_K_shows S x1 x2 = 0 from by rw [F_K_shows, if_neg c_1_0, if_neg c_1_1, if_neg c_1_2, if_neg c_1_3, if_neg c_1_4, if_neg c_1_5, if_pos c_1_6, if_neg c_191]] at hq; exact hq)
    · refine z_aload_n C 195 d_K_shows_194 rfl rfl ?_
      refine z_iload_n C 196 d_K_shows_195 rfl rfl ?_
      refine z_iconst C 1 197 d_K_shows_196 rfl (by decide) ?_
      refine z_goA C (z_V C kc_K_83 (c_K_number G l a S x1 1) (st := []) 0 0 rfl rfl rfl rfl (Nat.le_of_ble_eq_true rfl) ⟨⟨Nat.le_of_ble_eq_true rfl, Nat.le_of_ble_eq_true rfl⟩, Nat.le_of_ble_eq_true rfl, Nat.le_of_ble_eq_true rfl⟩ d_K_shows_197) [.int (F_K_number S x1 1)] 200 rfl rfl ?_
      refine z_iconst C (-1) 201 d_K_shows_200 rfl (by decide) ?_
      refine z_icmp_eq C 208 204 d_K_shows_201 (by decide) rfl (fun c_201 => ?_) (fun c_201 => ?_)
      · refine z_iconst C 0 209 d_K_shows_208 rfl (by decide) ?_
        exact z_zret C hlk rfl hr d_K_shows_209 (by rw [show F_K_shows S x1 x2 = 0 from by rw [F_K_shows, if_neg c_1_0, if_neg c_1_1, if_neg c_1_2, if_neg c_1_3, if_neg c_1_4, if_neg c_1_5, if_pos c_1_6, if_pos c_191, if_pos c_201]] at hq; exact hq)
      · refine z_iconst C 1 205 d_K_shows_204 rfl (by decide) ?_
        refine z_goto C 209 d_K_shows_205 (by decide) ?_
        exact z_zret C hlk rfl hr d_K_shows_209 (by rw [show F_K_shows S x1 x2 = 1 from by rw [F_K_shows, if_neg c_1_0, if_neg c_1_1, if_neg c_1_2, if_neg c_1_3, if_neg c_1_4, if_neg c_1_5, if_pos c_1_6, if_pos c_191, if_neg c_201]] at hq; exact hq)
  by_cases c_1_7 : x2 = 7
  · refine z_tableIn C 210 d_K_shows_1 (by rw [c_1_7]; decide) (by rw [c_1_7]; decide) (by rw [c_1_7]; rfl) (by decide) ?_
    refine z_aload_n C 211 d_K_shows_210 rfl rfl ?_
    refine z_get C kf_K_25 0 (v := .int (sK_kind S)) 214 d_K_shows_211 rfl rfl rfl ?_
    refine z_iconst C 5 215 d_K_shows_214 rfl (by decide) ?_
    refine z_icmp_ne C 236 218 d_K_shows_215 (by decide) rfl (fun c_215 => ?_) (fun c_215 => ?_)
    · refine z_iconst C 0 237 d_K_shows_236 rfl (by decide) ?_
      exact z_zret C hlk rfl hr d_K_shows_237 (by rw [show F_K_shows S x1 x2 = 0 from by rw [F_K_shows, if_neg c_1_0, if_neg c_1_1, if_neg c_1_2, if_neg c_1_3, if_neg c_1_4, if_neg c_1_5, if_neg c_1_6, if_pos c_1_7, if_neg c_215]] at hq; exact hq)
    · refine z_aload_n C 219 d_K_shows_218 rfl rfl ?_
      refine z_iload_n C 220 d_K_shows_219 rfl rfl ?_
      refine z_iconst C 2 221 d_K_shows_220 rfl (by decide) ?_
      refine z_goA C (z_V C kc_K_83 (c_K_number G l a S x1 2) (st := []) 0 0 rfl rfl rfl rfl (Nat.le_of_ble_eq_true rfl) ⟨⟨Nat.le_of_ble_eq_true rfl, Nat.le_of_ble_eq_true rfl⟩, Nat.le_of_ble_eq_true rfl, Nat.le_of_ble_eq_true rfl⟩ d_K_shows_221) [.int (F_K_number S x1 2)] 224 rfl rfl ?_
      refine z_aload_n C 225 d_K_shows_224 rfl rfl ?_
      refine z_iload_n C 226 d_K_shows_225 rfl rfl ?_
      refine z_goA C (z_V C kc_K_99 (c_K_timeBefore G l a S x1) (st := [.int (F_K_number S x1 2)]) 0 0 rfl rfl rfl rfl (Nat.le_of_ble_eq_true rfl) ⟨⟨Nat.le_of_ble_eq_true rfl, Nat.le_of_ble_eq_true rfl⟩, Nat.le_of_ble_eq_true rfl, Nat.le_of_ble_eq_true rfl⟩ d_K_shows_226) [.int (F_K_timeBefore S x1), .int (F_K_number S x1 2)] 229 rfl rfl ?_
      refine z_icmp_ne C 236 232 d_K_shows_229 (by decide) rfl (fun c_229 => ?_) (fun c_229 => ?_)
      · refine z_iconst C 0 237 d_K_shows_236 rfl (by decide) ?_
        exact z_zret C hlk rfl hr d_K_shows_237 (by rw [show F_K_shows S x1 x2 = 0 from by rw [F_K_shows, if_neg c_1_0, if_neg c_1_1, if_neg c_1_2, if_neg c_1_3, if_neg c_1_4, if_neg c_1_5, if_neg c_1_6, if_pos c_1_7, if_pos c_215, if_neg c_229]] at hq; exact hq)
      · refine z_iconst C 1 233 d_K_shows_232 rfl (by decide) ?_
        refine z_goto C 237 d_K_shows_233 (by decide) ?_
        exact z_zret C hlk rfl hr d_K_shows_237 (by rw [show F_K_shows S x1 x2 = 1 from by rw [F_K_shows, if_neg c_1_0, if_neg c_1_1, if_neg c_1_2, if_neg c_1_3, if_neg c_1_4, if_neg c_1_5, if_neg c_1_6, if_pos c_1_7, if_pos c_215, if_pos c_229]] at hq; exact hq)
  refine z_tableOut C 238 d_K_shows_1 (by have q0 := lv_neT c_1_0 (a := 0) (by decide); have q1 := lv_neT c_1_1 (a := 1) (by decide); have q2 := lv_neT c_1_2 (a := 2) (by decide); have q3 := lv_neT c_1_3 (a := 3) (by decide); have q4 := lv_neT c_1_4 (a := 4) (by decide); have q5 := lv_neT c_1_5 (a := 5) (by decide); have q6 := lv_neT c_1_6 (a := 6) (by decide); have q7 := lv_neT c_1_7 (a := 7) (by decide); omega) (by decide) ?_
  refine z_iconst C 0 239 d_K_shows_238 rfl (by decide) ?_
  exact z_zret C hlk rfl hr d_K_shows_239 (by rw [show F_K_shows S x1 x2 = 0 from by rw [F_K_shows, if_neg c_1_0, if_neg c_1_1, if_neg c_1_2, if_neg c_1_3, if_neg c_1_4, if_neg c_1_5, if_neg c_1_6, if_neg c_1_7]] at hq; exact hq)
end
section

theorem zi_nn {i b : Int32} (h : ¬ b ≤ i) (hi : ¬ i < 0) : ¬ i + 1 < 0 := by
  have h0 : i < b := Int32.not_le.mp h
  have h1 := Int32.le_iff_toInt_le.mp (Int32.not_lt.mp hi)
  intro q
  have h2 := Int32.lt_iff_toInt_lt.mp q
  rw [zi_succ h0] at h2
  have e0 : (0 : Int32).toInt = 0 := by decide
  omega
theorem zdecL {i b : Int32} {n : Nat} (hb : b.toInt < 2147483647) (h : ¬ b < i) (hm : (b.toInt + 1 - i.toInt).toNat < n + 1) : (b.toInt + 1 - (i + 1).toInt).toNat < n := by
  have h0 : i ≤ b := Int32.not_lt.mp h
  have h1 := Int32.le_iff_toInt_le.mp h0
  have h3 := Int32.le_toInt i
  rw [Int32.toInt_add]
  have e1 : (1 : Int32).toInt = 1 := by decide
  rw [e1, Int.bmod_eq_of_le (by omega) (by omega)]
  omega

def F_R_clear (S : SR)  : SR :=
  (uR_told S 0)
set_option maxRecDepth 100000 in
set_option maxHeartbeats 4000000 in
theorem c_R_clear (G : zG) (l : Launch) (a : Nat → Nat) (S : SR)   : zM G l y_R_clear b_R_clear 1 (none) (zR 0 0) [.ref (a 0)] (wR G a S) (fun r1 w1 => r1 = none ∧ w1 = wR G a (F_R_clear S)) := by
  generalize hPost : (fun (r1 : Option Value) (w1 : va_W) => r1 = none ∧ w1 = wR G a (F_R_clear S)) = Post
  have hq : Post (none) (wR G a (F_R_clear S)) := by rw [← hPost]; exact ⟨rfl, rfl⟩
  clear hPost
  refine zM_of (by decide) (Nat.le_of_ble_eq_true rfl) ?_
  intro p e s m args below meth c C hlk hr hin
  refine z_aload_n C 1 d_R_clear_0 rfl rfl ?_
  refine z_iconst C 0 2 d_R_clear_1 rfl (by decide) ?_
  refine z_put C kf_R_15 kp_R 0 (wR G a (uR_told S 0)) 5 d_R_clear_2 rfl rfl rfl (znr_i _) (zft_i _) (Nat.le_of_ble_eq_true rfl) (wR_put_told G a S 0) ?_
  exact z_vret C hlk hr d_R_clear_5 (by rw [show F_R_clear S = (uR_told S 0) from by rw [F_R_clear]] at hq; exact hq)

def F_R_add (S : SR) (x1 : Int32) : SR :=
  if (sR_told S) < 0 then
    S
  else
    if 6 ≤ (sR_told S) then
      S
    else
      (uR_told (uR_rows S (upd (sR_rows S) (Int32.toNatClampNeg (sR_told S)) x1)) ((sR_told S) + 1))
set_option maxRecDepth 100000 in
set_option maxHeartbeats 4000000 in
theorem c_R_add (G : zG) (l : Launch) (a : Nat → Nat) (S : SR) (x1 : Int32)  : zM G l y_R_add b_R_add 2 (none) (zR 0 0) [.ref (a 0), .int x1] (wR G a S) (fun r1 w1 => r1 = none ∧ w1 = wR G a (F_R_add S x1)) := by
  generalize hPost : (fun (r1 : Option Value) (w1 : va_W) => r1 = none ∧ w1 = wR G a (F_R_add S x1)) = Post
  have hq : Post (none) (wR G a (F_R_add S x1)) := by rw [← hPost]; exact ⟨rfl, rfl⟩
  clear hPost
  refine zM_of (by decide) (Nat.le_of_ble_eq_true rfl) ?_
  intro p e s m args below meth c C hlk hr hin
  refine z_aload_n C 1 d_R_add_0 rfl rfl ?_
  refine z_get C kf_R_15 0 (v := .int (sR_told S)) 4 d_R_add_1 rfl rfl rfl ?_
  refine z_if_lt C 39 7 d_R_add_4 (by decide) rfl (fun c_4 => ?_) (fun c_4 => ?_)
  · exact z_vret C hlk hr d_R_add_39 (by rw [show F_R_add S x1 = S from by rw [F_R_add, if_pos c_4]] at hq; exact hq)
  · refine z_aload_n C 8 d_R_add_7 rfl rfl ?_
    refine z_get C kf_R_15 0 (v := .int (sR_told S)) 11 d_R_add_8 rfl rfl rfl ?_
    refine z_aload_n C 12 d_R_add_11 rfl rfl ?_
    refine z_get C kf_R_9 0 (v := .ref (a 1)) 15 d_R_add_12 rfl rfl rfl ?_
    refine z_alen C 1 0 6 16 d_R_add_15 rfl rfl rfl rfl ?_
    refine z_icmp_ge C 39 19 d_R_add_16 (by decide) rfl (fun c_16 => ?_) (fun c_16 => ?_)
    · exact z_vret C hlk hr d_R_add_39 (by rw [show F_R_add S x1 = S from by rw [F_R_add, if_neg c_4, if_pos c_16]] at hq; exact hq)
    · refine z_aload_n C 20 d_R_add_19 rfl rfl ?_
      refine z_get C kf_R_9 0 (v := .ref (a 1)) 23 d_R_add_20 rfl rfl rfl ?_
      refine z_aload_n C 24 d_R_add_23 rfl rfl ?_
      refine z_get C kf_R_15 0 (v := .int (sR_told S)) 27 d_R_add_24 rfl rfl rfl ?_
      refine z_iload_n C 28 d_R_add_27 rfl rfl ?_
      refine z_iast C 1 0 (f := (sR_rows S)) (wR G a (uR_rows S (upd (sR_rows S) (Int32.toNatClampNeg (sR_told S)) x1))) 29 d_R_add_28 rfl rfl rfl (kx_ix rfl (by decide) c_4 (Int32.not_le.mp c_16)) (wR_set_rows G a S (upd (sR_rows S) (Int32.toNatClampNeg (sR_told S)) x1)) ?_
      refine z_aload_n C 30 d_R_add_29 rfl rfl ?_
      refine z_dup C 31 d_R_add_30 rfl rfl ?_
      refine z_get C kf_R_15 0 (v := .int (sR_told S)) 34 d_R_add_31 rfl rfl rfl ?_
      refine z_iconst C 1 35 d_R_add_34 rfl (by decide) ?_
      refine z_iadd C 36 d_R_add_35 rfl ?_
      refine z_put C kf_R_15 kp_R 0 (wR G a (uR_told (uR_rows S (upd (sR_rows S) (Int32.toNatClampNeg (sR_told S)) x1)) ((sR_told S) + 1))) 39 d_R_add_36 rfl rfl rfl (znr_i _) (zft_i _) (Nat.le_of_ble_eq_true rfl) (wR_put_told G a (uR_rows S (upd (sR_rows S) (Int32.toNatClampNeg (sR_told S)) x1)) ((sR_told S) + 1)) ?_
      exact z_vret C hlk hr d_R_add_39 (by rw [show F_R_add S x1 = (uR_told (uR_rows S (upd (sR_rows S) (Int32.toNatClampNeg (sR_told S)) x1)) ((sR_told S) + 1)) from by rw [F_R_add, if_neg c_4, if_neg c_16]] at hq; exact hq)

def L_R_oneIsWithin_2 : Nat → SR → Int32 → Int32 → Int32
  | 0, S, v1, v2 => 0
  | n + 1, S, v1, v2 =>
    if (sR_told S) ≤ v2 then
      0
    else
      if 6 ≤ v2 then
        0
      else
        if (((sR_rows S) (Int32.toNatClampNeg v2)) &&& v1) = ((sR_rows S) (Int32.toNatClampNeg v2)) then
          1
        else
          (L_R_oneIsWithin_2 n S v1 (v2 + 1))
set_option maxRecDepth 100000 in
set_option maxHeartbeats 4000000 in
theorem l_R_oneIsWithin_2 (G : zG) (l : Launch) (a : Nat → Nat) {p : Program} {e : Env} {s : State} {m : MethodId} {args : Array Value} {below : List Frame} {meth : Method} {c : Code} {w0 : va_W} {Post : Option Value → va_W → Prop} (C : zC p s m args meth c b_R_oneIsWithin 3 N_R G (va_A w0 s.heap.size)) (hlk : meth.locks = false) (hr : meth.sig.returnType = some .boolean) :
    ∀ (n : Nat) (S : SR) (v1 : Int32) (v2 : Int32), (Int32.toInt (sR_told S) - Int32.toInt v2).toNat < n → (¬ v2 < 0) → Post (some (.int (L_R_oneIsWithin_2 n S v1 v2))) (wR G a S) → zV p l e (zR 0 0) s m args below meth c 3 G (va_A w0 s.heap.size) (MQ below (zQ G w0 s.heap.size Post) args s 0 0 (va_A w0 s.heap.size)) 0 0 (wR G a S) 2 [(0, .ref (a 0)), (1, .int v1), (2, .int v2)] [] := by
  intro n
  induction n with
  | zero => intro S v1 v2 h; exact absurd h (Nat.not_lt_zero _)
  | succ n ih =>
    intro S v1 v2 hmu hpre hq
    refine z_iload_n C 3 d_R_oneIsWithin_2 rfl rfl ?_
    refine z_aload_n C 4 d_R_oneIsWithin_3 rfl rfl ?_
    refine z_get C kf_R_15 0 (v := .int (sR_told S)) 7 d_R_oneIsWithin_4 rfl rfl rfl ?_
    refine z_icmp_ge C 44 10 d_R_oneIsWithin_7 (by decide) rfl (fun c_7 => ?_) (fun c_7 => ?_)
    · refine z_iconst C 0 45 d_R_oneIsWithin_44 rfl (by decide) ?_
      exact z_zret C hlk rfl hr d_R_oneIsWithin_45 (by rw [show L_R_oneIsWithin_2 (n + 1) S v1 v2 = 0 from by rw [L_R_oneIsWithin_2, if_pos c_7]] at hq; exact hq)
    · refine z_iload_n C 11 d_R_oneIsWithin_10 rfl rfl ?_
      refine z_aload_n C 12 d_R_oneIsWithin_11 rfl rfl ?_
      refine z_get C kf_R_9 0 (v := .ref (a 1)) 15 d_R_oneIsWithin_12 rfl rfl rfl ?_
      refine z_alen C 1 0 6 16 d_R_oneIsWithin_15 rfl rfl rfl rfl ?_
      refine z_icmp_ge C 44 19 d_R_oneIsWithin_16 (by decide) rfl (fun c_16 => ?_) (fun c_16 => ?_)
      · refine z_iconst C 0 45 d_R_oneIsWithin_44 rfl (by decide) ?_
        exact z_zret C hlk rfl hr d_R_oneIsWithin_45 (by rw [show L_R_oneIsWithin_2 (n + 1) S v1 v2 = 0 from by rw [L_R_oneIsWithin_2, if_neg c_7, if_pos c_16]] at hq; exact hq)
      · refine z_aload_n C 20 d_R_oneIsWithin_19 rfl rfl ?_
        refine z_get C kf_R_9 0 (v := .ref (a 1)) 23 d_R_oneIsWithin_20 rfl rfl rfl ?_
        refine z_iload_n C 24 d_R_oneIsWithin_23 rfl rfl ?_
        refine z_iald C 1 0 (f := (sR_rows S)) 25 d_R_oneIsWithin_24 rfl rfl rfl (kx_ix rfl (by decide) hpre (Int32.not_le.mp c_16)) ?_
        refine z_iload_n C 26 d_R_oneIsWithin_25 rfl rfl ?_
        refine z_iand C 27 d_R_oneIsWithin_26 rfl ?_
        refine z_aload_n C 28 d_R_oneIsWithin_27 rfl rfl ?_
        refine z_get C kf_R_9 0 (v := .ref (a 1)) 31 d_R_oneIsWithin_28 rfl rfl rfl ?_
        refine z_iload_n C 32 d_R_oneIsWithin_31 rfl rfl ?_
        refine z_iald C 1 0 (f := (sR_rows S)) 33 d_R_oneIsWithin_32 rfl rfl rfl (kx_ix rfl (by decide) hpre (Int32.not_le.mp c_16)) ?_
        refine z_icmp_ne C 38 36 d_R_oneIsWithin_33 (by decide) rfl (fun c_33 => ?_) (fun c_33 => ?_)
        · refine z_iinc C (v2 + 1) [(2, .int (v2 + 1)), (0, .ref (a 0)), (1, .int v1)] 41 d_R_oneIsWithin_38 rfl (by decide) rfl rfl rfl ?_
          refine z_goto C 2 d_R_oneIsWithin_41 (by decide) ?_
          refine z_lvs [1, 2, 0] [(0, .ref (a 0)), (1, .int v1), (2, .int (v2 + 1))] rfl ?_
          exact ih S v1 (v2 + 1) (zdec c_7 hmu) (zi_nn c_7 hpre) (by rw [show L_R_oneIsWithin_2 (n + 1) S v1 v2 = (L_R_oneIsWithin_2 n S v1 (v2 + 1)) from by rw [L_R_oneIsWithin_2, if_neg c_7, if_neg c_16, if_neg c_33]] at hq; exact hq)
        · refine z_iconst C 1 37 d_R_oneIsWithin_36 rfl (by decide) ?_
          exact z_zret C hlk rfl hr d_R_oneIsWithin_37 (by rw [show L_R_oneIsWithin_2 (n + 1) S v1 v2 = 1 from by rw [L_R_oneIsWithin_2, if_neg c_7, if_neg c_16, if_pos c_33]] at hq; exact hq)
def F_R_oneIsWithin (S : SR) (x1 : Int32) : Int32 :=
  (L_R_oneIsWithin_2 ((Int32.toInt (sR_told S) - Int32.toInt 0).toNat + 1) S x1 0)
set_option maxRecDepth 100000 in
set_option maxHeartbeats 4000000 in
theorem c_R_oneIsWithin (G : zG) (l : Launch) (a : Nat → Nat) (S : SR) (x1 : Int32)  : zM G l y_R_oneIsWithin b_R_oneIsWithin 3 (some .boolean) (zR 0 0) [.ref (a 0), .int x1] (wR G a S) (fun r1 w1 => r1 = some (.int (F_R_oneIsWithin S x1)) ∧ w1 = wR G a S) := by
  generalize hPost : (fun (r1 : Option Value) (w1 : va_W) => r1 = some (.int (F_R_oneIsWithin S x1)) ∧ w1 = wR G a S) = Post
  have hq : Post (some (.int (F_R_oneIsWithin S x1))) (wR G a S) := by rw [← hPost]; exact ⟨rfl, rfl⟩
  clear hPost
  refine zM_of (by decide) (Nat.le_of_ble_eq_true rfl) ?_
  intro p e s m args below meth c C hlk hr hin
  refine z_iconst C 0 1 d_R_oneIsWithin_0 rfl (by decide) ?_
  refine z_istore_n C [(2, .int 0), (0, .ref (a 0)), (1, .int x1)] 2 d_R_oneIsWithin_1 rfl (by decide) rfl ?_
  refine z_lvs [1, 2, 0] [(0, .ref (a 0)), (1, .int x1), (2, .int 0)] rfl ?_
  exact l_R_oneIsWithin_2 G l a C hlk hr _ S x1 0 (Nat.lt_succ_self _) (by decide) (by rw [show F_R_oneIsWithin S x1 = (L_R_oneIsWithin_2 ((Int32.toInt (sR_told S) - Int32.toInt 0).toNat + 1) S x1 0) from by rw [F_R_oneIsWithin]] at hq; exact hq)

def L_R_oneIsTornBy_2 : Nat → SR → Int32 → Int32 → Int32
  | 0, S, v1, v2 => 0
  | n + 1, S, v1, v2 =>
    if (sR_told S) ≤ v2 then
      0
    else
      if 6 ≤ v2 then
        0
      else
        if (((sR_rows S) (Int32.toNatClampNeg v2)) &&& v1) = 0 then
          (L_R_oneIsTornBy_2 n S v1 (v2 + 1))
        else
          if (((sR_rows S) (Int32.toNatClampNeg v2)) &&& v1) = ((sR_rows S) (Int32.toNatClampNeg v2)) then
            (L_R_oneIsTornBy_2 n S v1 (v2 + 1))
          else
            1
set_option maxRecDepth 100000 in
set_option maxHeartbeats 4000000 in
theorem l_R_oneIsTornBy_2 (G : zG) (l : Launch) (a : Nat → Nat) {p : Program} {e : Env} {s : State} {m : MethodId} {args : Array Value} {below : List Frame} {meth : Method} {c : Code} {w0 : va_W} {Post : Option Value → va_W → Prop} (C : zC p s m args meth c b_R_oneIsTornBy 4 N_R G (va_A w0 s.heap.size)) (hlk : meth.locks = false) (hr : meth.sig.returnType = some .boolean) :
    ∀ (n : Nat) (S : SR) (v1 : Int32) (v2 : Int32), (Int32.toInt (sR_told S) - Int32.toInt v2).toNat < n → (¬ v2 < 0) → Post (some (.int (L_R_oneIsTornBy_2 n S v1 v2))) (wR G a S) → zV p l e (zR 0 0) s m args below meth c 4 G (va_A w0 s.heap.size) (MQ below (zQ G w0 s.heap.size Post) args s 0 0 (va_A w0 s.heap.size)) 0 0 (wR G a S) 2 [(0, .ref (a 0)), (1, .int v1), (2, .int v2)] [] := by
  intro n
  induction n with
  | zero => intro S v1 v2 h; exact absurd h (Nat.not_lt_zero _)
  | succ n ih =>
    intro S v1 v2 hmu hpre hq
    refine z_iload_n C 3 d_R_oneIsTornBy_2 rfl rfl ?_
    refine z_aload_n C 4 d_R_oneIsTornBy_3 rfl rfl ?_
    refine z_get C kf_R_15 0 (v := .int (sR_told S)) 7 d_R_oneIsTornBy_4 rfl rfl rfl ?_
    refine z_icmp_ge C 50 10 d_R_oneIsTornBy_7 (by decide) rfl (fun c_7 => ?_) (fun c_7 => ?_)
    · refine z_iconst C 0 51 d_R_oneIsTornBy_50 rfl (by decide) ?_
      exact z_zret C hlk rfl hr d_R_oneIsTornBy_51 (by rw [show L_R_oneIsTornBy_2 (n + 1) S v1 v2 = 0 from by rw [L_R_oneIsTornBy_2, if_pos c_7]] at hq; exact hq)
    · refine z_iload_n C 11 d_R_oneIsTornBy_10 rfl rfl ?_
      refine z_aload_n C 12 d_R_oneIsTornBy_11 rfl rfl ?_
      refine z_get C kf_R_9 0 (v := .ref (a 1)) 15 d_R_oneIsTornBy_12 rfl rfl rfl ?_
      refine z_alen C 1 0 6 16 d_R_oneIsTornBy_15 rfl rfl rfl rfl ?_
      refine z_icmp_ge C 50 19 d_R_oneIsTornBy_16 (by decide) rfl (fun c_16 => ?_) (fun c_16 => ?_)
      · refine z_iconst C 0 51 d_R_oneIsTornBy_50 rfl (by decide) ?_
        exact z_zret C hlk rfl hr d_R_oneIsTornBy_51 (by rw [show L_R_oneIsTornBy_2 (n + 1) S v1 v2 = 0 from by rw [L_R_oneIsTornBy_2, if_neg c_7, if_pos c_16]] at hq; exact hq)
      · refine z_aload_n C 20 d_R_oneIsTornBy_19 rfl rfl ?_
        refine z_get C kf_R_9 0 (v := .ref (a 1)) 23 d_R_oneIsTornBy_20 rfl rfl rfl ?_
        refine z_iload_n C 24 d_R_oneIsTornBy_23 rfl rfl ?_
        refine z_iald C 1 0 (f := (sR_rows S)) 25 d_R_oneIsTornBy_24 rfl rfl rfl (kx_ix rfl (by decide) hpre (Int32.not_le.mp c_16)) ?_
        refine z_iload_n C 26 d_R_oneIsTornBy_25 rfl rfl ?_
        refine z_iand C 27 d_R_oneIsTornBy_26 rfl ?_
        refine z_istore_n C [(3, .int (((sR_rows S) (Int32.toNatClampNeg v2)) &&& v1)), (0, .ref (a 0)), (1, .int v1), (2, .int v2)] 28 d_R_oneIsTornBy_27 rfl (by decide) rfl ?_
        refine z_iload_n C 29 d_R_oneIsTornBy_28 rfl rfl ?_
        refine z_if_eq C 44 32 d_R_oneIsTornBy_29 (by decide) rfl (fun c_29 => ?_) (fun c_29 => ?_)
        · refine z_iinc C (v2 + 1) [(2, .int (v2 + 1)), (3, .int (((sR_rows S) (Int32.toNatClampNeg v2)) &&& v1)), (0, .ref (a 0)), (1, .int v1)] 47 d_R_oneIsTornBy_44 rfl (by decide) rfl rfl rfl ?_
          refine z_goto C 2 d_R_oneIsTornBy_47 (by decide) ?_
          refine z_lvs [2, 3, 0] [(0, .ref (a 0)), (1, .int v1), (2, .int (v2 + 1))] rfl ?_
          exact ih S v1 (v2 + 1) (zdec c_7 hmu) (zi_nn c_7 hpre) (by rw [show L_R_oneIsTornBy_2 (n + 1) S v1 v2 = (L_R_oneIsTornBy_2 n S v1 (v2 + 1)) from by rw [L_R_oneIsTornBy_2, if_neg c_7, if_neg c_16, if_pos c_29]] at hq; exact hq)
        · refine z_iload_n C 33 d_R_oneIsTornBy_32 rfl rfl ?_
          refine z_aload_n C 34 d_R_oneIsTornBy_33 rfl rfl ?_
          refine z_get C kf_R_9 0 (v := .ref (a 1)) 37 d_R_oneIsTornBy_34 rfl rfl rfl ?_
          refine z_iload_n C 38 d_R_oneIsTornBy_37 rfl rfl ?_
          refine z_iald C 1 0 (f := (sR_rows S)) 39 d_R_oneIsTornBy_38 rfl rfl rfl (kx_ix rfl (by decide) hpre (Int32.not_le.mp c_16)) ?_
          refine z_icmp_eq C 44 42 d_R_oneIsTornBy_39 (by decide) rfl (fun c_39 => ?_) (fun c_39 => ?_)
          · refine z_iinc C (v2 + 1) [(2, .int (v2 + 1)), (3, .int (((sR_rows S) (Int32.toNatClampNeg v2)) &&& v1)), (0, .ref (a 0)), (1, .int v1)] 47 d_R_oneIsTornBy_44 rfl (by decide) rfl rfl rfl ?_
            refine z_goto C 2 d_R_oneIsTornBy_47 (by decide) ?_
            refine z_lvs [2, 3, 0] [(0, .ref (a 0)), (1, .int v1), (2, .int (v2 + 1))] rfl ?_
            exact ih S v1 (v2 + 1) (zdec c_7 hmu) (zi_nn c_7 hpre) (by rw [show L_R_oneIsTornBy_2 (n + 1) S v1 v2 = (L_R_oneIsTornBy_2 n S v1 (v2 + 1)) from by rw [L_R_oneIsTornBy_2, if_neg c_7, if_neg c_16, if_neg c_29, if_pos c_39]] at hq; exact hq)
          · refine z_iconst C 1 43 d_R_oneIsTornBy_42 rfl (by decide) ?_
            exact z_zret C hlk rfl hr d_R_oneIsTornBy_43 (by rw [show L_R_oneIsTornBy_2 (n + 1) S v1 v2 = 1 from by rw [L_R_oneIsTornBy_2, if_neg c_7, if_neg c_16, if_neg c_29, if_neg c_39]] at hq; exact hq)
def F_R_oneIsTornBy (S : SR) (x1 : Int32) : Int32 :=
  (L_R_oneIsTornBy_2 ((Int32.toInt (sR_told S) - Int32.toInt 0).toNat + 1) S x1 0)
set_option maxRecDepth 100000 in
set_option maxHeartbeats 4000000 in
theorem c_R_oneIsTornBy (G : zG) (l : Launch) (a : Nat → Nat) (S : SR) (x1 : Int32)  : zM G l y_R_oneIsTornBy b_R_oneIsTornBy 4 (some .boolean) (zR 0 0) [.ref (a 0), .int x1] (wR G a S) (fun r1 w1 => r1 = some (.int (F_R_oneIsTornBy S x1)) ∧ w1 = wR G a S) := by
  generalize hPost : (fun (r1 : Option Value) (w1 : va_W) => r1 = some (.int (F_R_oneIsTornBy S x1)) ∧ w1 = wR G a S) = Post
  have hq : Post (some (.int (F_R_oneIsTornBy S x1))) (wR G a S) := by rw [← hPost]; exact ⟨rfl, rfl⟩
  clear hPost
  refine zM_of (by decide) (Nat.le_of_ble_eq_true rfl) ?_
  intro p e s m args below meth c C hlk hr hin
  refine z_iconst C 0 1 d_R_oneIsTornBy_0 rfl (by decide) ?_
  refine z_istore_n C [(2, .int 0), (0, .ref (a 0)), (1, .int x1)] 2 d_R_oneIsTornBy_1 rfl (by decide) rfl ?_
  refine z_lvs [1, 2, 0] [(0, .ref (a 0)), (1, .int x1), (2, .int 0)] rfl ?_
  exact l_R_oneIsTornBy_2 G l a C hlk hr _ S x1 0 (Nat.lt_succ_self _) (by decide) (by rw [show F_R_oneIsTornBy S x1 = (L_R_oneIsTornBy_2 ((Int32.toInt (sR_told S) - Int32.toInt 0).toNat + 1) S x1 0) from by rw [F_R_oneIsTornBy]] at hq; exact hq)

def F_D_isIn (x0 : Int32) (x1 : Int32) : Int32 :=
  if (x1 &&& (1 <<< (x0 &&& 31))) = 0 then
    0
  else
    1
set_option maxRecDepth 100000 in
set_option maxHeartbeats 4000000 in
theorem c_D_isIn (G : zG) (l : Launch) (x0 : Int32) (x1 : Int32)  : zM G l y_D_isIn b_D_isIn 2 (some .boolean) (zR 0 0) [.int x0, .int x1] ([]) (fun r1 w1 => r1 = some (.int (F_D_isIn x0 x1)) ∧ w1 = []) := by
  generalize hPost : (fun (r1 : Option Value) (w1 : va_W) => r1 = some (.int (F_D_isIn x0 x1)) ∧ w1 = []) = Post
  have hq : Post (some (.int (F_D_isIn x0 x1))) ([]) := by rw [← hPost]; exact ⟨rfl, rfl⟩
  clear hPost
  refine zM_of (by decide) (Nat.le_of_ble_eq_true rfl) ?_
  intro p e s m args below meth c C hlk hr hin
  refine z_iload_n C 1 d_D_isIn_0 rfl rfl ?_
  refine z_iconst C 1 2 d_D_isIn_1 rfl (by decide) ?_
  refine z_iload_n C 3 d_D_isIn_2 rfl rfl ?_
  refine z_ishl C 4 d_D_isIn_3 rfl ?_
  refine z_iand C 5 d_D_isIn_4 rfl ?_
  refine z_if_eq C 12 8 d_D_isIn_5 (by decide) rfl (fun c_5 => ?_) (fun c_5 => ?_)
  · refine z_iconst C 0 13 d_D_isIn_12 rfl (by decide) ?_
    exact z_zret C hlk rfl hr d_D_isIn_13 (by rw [show F_D_isIn x0 x1 = 0 from by rw [F_D_isIn, if_pos c_5]] at hq; exact hq)
  · refine z_iconst C 1 9 d_D_isIn_8 rfl (by decide) ?_
    refine z_goto C 13 d_D_isIn_9 (by decide) ?_
    exact z_zret C hlk rfl hr d_D_isIn_13 (by rw [show F_D_isIn x0 x1 = 1 from by rw [F_D_isIn, if_neg c_5]] at hq; exact hq)

def F_D_without (x0 : Int32) (x1 : Int32) : Int32 :=
  (x1 &&& ((1 <<< (x0 &&& 31)) ^^^ (-1)))
set_option maxRecDepth 100000 in
set_option maxHeartbeats 4000000 in
theorem c_D_without (G : zG) (l : Launch) (x0 : Int32) (x1 : Int32)  : zM G l y_D_without b_D_without 2 (some .int) (zR 0 0) [.int x0, .int x1] ([]) (fun r1 w1 => r1 = some (.int (F_D_without x0 x1)) ∧ w1 = []) := by
  generalize hPost : (fun (r1 : Option Value) (w1 : va_W) => r1 = some (.int (F_D_without x0 x1)) ∧ w1 = []) = Post
  have hq : Post (some (.int (F_D_without x0 x1))) ([]) := by rw [← hPost]; exact ⟨rfl, rfl⟩
  clear hPost
  refine zM_of (by decide) (Nat.le_of_ble_eq_true rfl) ?_
  intro p e s m args below meth c C hlk hr hin
  refine z_iload_n C 1 d_D_without_0 rfl rfl ?_
  refine z_iconst C 1 2 d_D_without_1 rfl (by decide) ?_
  refine z_iload_n C 3 d_D_without_2 rfl rfl ?_
  refine z_ishl C 4 d_D_without_3 rfl ?_
  refine z_iconst C (-1) 5 d_D_without_4 rfl (by decide) ?_
  refine z_ixor C 6 d_D_without_5 rfl ?_
  refine z_iand C 7 d_D_without_6 rfl ?_
  exact z_iret C hlk hr d_D_without_7 (by rw [show F_D_without x0 x1 = (x1 &&& ((1 <<< (x0 &&& 31)) ^^^ (-1))) from by rw [F_D_without]] at hq; exact hq)

def F_D_staysFor (S : SD) (x1 : Int32) : Int32 :=
  if (F_R_oneIsWithin (sD_needed S) x1) = 0 then
    0
  else
    if (F_R_oneIsTornBy (sD_together S) x1) = 0 then
      1
    else
      0
set_option maxRecDepth 100000 in
set_option maxHeartbeats 4000000 in
theorem c_D_staysFor (G : zG) (l : Launch) (a : Nat → Nat) (S : SD) (x1 : Int32)  : zM G l y_D_staysFor b_D_staysFor 2 (some .boolean) (zR 1 23) [.ref (a 0), .int x1] (wD G a S) (fun r1 w1 => r1 = some (.int (F_D_staysFor S x1)) ∧ w1 = wD G a S) := by
  generalize hPost : (fun (r1 : Option Value) (w1 : va_W) => r1 = some (.int (F_D_staysFor S x1)) ∧ w1 = wD G a S) = Post
  have hq : Post (some (.int (F_D_staysFor S x1))) (wD G a S) := by rw [← hPost]; exact ⟨rfl, rfl⟩
  clear hPost
  refine zM_of (by decide) (Nat.le_of_ble_eq_true rfl) ?_
  intro p e s m args below meth c C hlk hr hin
  refine z_aload_n C 1 d_D_staysFor_0 rfl rfl ?_
  refine z_get C kf_D_25 0 (v := .ref (a 13)) 4 d_D_staysFor_1 rfl rfl rfl ?_
  refine z_iload_n C 5 d_D_staysFor_4 rfl rfl ?_
  refine z_go_needed_ro C (z_V C kc_D_107 (c_R_oneIsWithin G l (fun i => a (i + 13)) (sD_needed S) x1) (st := []) 0 1 rfl rfl rfl rfl (Nat.le_of_ble_eq_true rfl) ⟨⟨Nat.le_of_ble_eq_true rfl, Nat.le_of_ble_eq_true rfl⟩, Nat.le_of_ble_eq_true rfl, Nat.le_of_ble_eq_true rfl⟩ d_D_staysFor_5) [.int (F_R_oneIsWithin (sD_needed S) x1)] 8 rfl rfl ?_
  refine z_if_eq C 26 11 d_D_staysFor_8 (by decide) rfl (fun c_8 => ?_) (fun c_8 => ?_)
  · refine z_iconst C 0 27 d_D_staysFor_26 rfl (by decide) ?_
    exact z_zret C hlk rfl hr d_D_staysFor_27 (by rw [show F_D_staysFor S x1 = 0 from by rw [F_D_staysFor, if_pos c_8]] at hq; exact hq)
  · refine z_aload_n C 12 d_D_staysFor_11 rfl rfl ?_
    refine z_get C kf_D_29 0 (v := .ref (a 15)) 15 d_D_staysFor_12 rfl rfl rfl ?_
    refine z_iload_n C 16 d_D_staysFor_15 rfl rfl ?_
    refine z_go_together_ro C (z_V C kc_D_110 (c_R_oneIsTornBy G l (fun i => a (i + 15)) (sD_together S) x1) (st := []) 0 1 rfl rfl rfl rfl (Nat.le_of_ble_eq_true rfl) ⟨⟨Nat.le_of_ble_eq_true rfl, Nat.le_of_ble_eq_true rfl⟩, Nat.le_of_ble_eq_true rfl, Nat.le_of_ble_eq_true rfl⟩ d_D_staysFor_16) [.int (F_R_oneIsTornBy (sD_together S) x1)] 19 rfl rfl ?_
    refine z_if_ne C 26 22 d_D_staysFor_19 (by decide) rfl (fun c_19 => ?_) (fun c_19 => ?_)
    · refine z_iconst C 0 27 d_D_staysFor_26 rfl (by decide) ?_
      exact z_zret C hlk rfl hr d_D_staysFor_27 (by rw [show F_D_staysFor S x1 = 0 from by rw [F_D_staysFor, if_neg c_8, if_neg c_19]] at hq; exact hq)
    · refine z_iconst C 1 23 d_D_staysFor_22 rfl (by decide) ?_
      refine z_goto C 27 d_D_staysFor_23 (by decide) ?_
      exact z_zret C hlk rfl hr d_D_staysFor_27 (by rw [show F_D_staysFor S x1 = 1 from by rw [F_D_staysFor, if_neg c_8, if_pos c_19]] at hq; exact hq)

def F_D_part (S : SD) (x1 : Int32) (x2 : Int32) : Int32 :=
  (F_K_number (sD_drawn S) x1 x2)
set_option maxRecDepth 100000 in
set_option maxHeartbeats 4000000 in
theorem c_D_part (G : zG) (l : Launch) (a : Nat → Nat) (S : SD) (x1 : Int32) (x2 : Int32)  : zM G l y_D_part b_D_part 3 (some .int) (zR 2 43) [.ref (a 0), .int x1, .int x2] (wD G a S) (fun r1 w1 => r1 = some (.int (F_D_part S x1 x2)) ∧ w1 = wD G a S) := by
  generalize hPost : (fun (r1 : Option Value) (w1 : va_W) => r1 = some (.int (F_D_part S x1 x2)) ∧ w1 = wD G a S) = Post
  have hq : Post (some (.int (F_D_part S x1 x2))) (wD G a S) := by rw [← hPost]; exact ⟨rfl, rfl⟩
  clear hPost
  refine zM_of (by decide) (Nat.le_of_ble_eq_true rfl) ?_
  intro p e s m args below meth c C hlk hr hin
  refine z_aload_n C 1 d_D_part_0 rfl rfl ?_
  refine z_get C kf_D_12 0 (v := .ref (a 1)) 4 d_D_part_1 rfl rfl rfl ?_
  refine z_iload_n C 5 d_D_part_4 rfl rfl ?_
  refine z_iload_n C 6 d_D_part_5 rfl rfl ?_
  refine z_go_drawn_ro C (z_V C kc_D_58 (c_K_number G l (fun i => a (i + 1)) (sD_drawn S) x1 x2) (st := []) 0 0 rfl rfl rfl rfl (Nat.le_of_ble_eq_true rfl) ⟨⟨Nat.le_of_ble_eq_true rfl, Nat.le_of_ble_eq_true rfl⟩, Nat.le_of_ble_eq_true rfl, Nat.le_of_ble_eq_true rfl⟩ d_D_part_6) [.int (F_K_number (sD_drawn S) x1 x2)] 9 rfl rfl ?_
  exact z_iret C hlk hr d_D_part_9 (by rw [show F_D_part S x1 x2 = (F_K_number (sD_drawn S) x1 x2) from by rw [F_D_part]] at hq; exact hq)

def F_D_letter (S : SD) (x1 : Int32) : Int32 :=
  (F_K_sign (sD_drawn S) x1)
set_option maxRecDepth 100000 in
set_option maxHeartbeats 4000000 in
theorem c_D_letter (G : zG) (l : Launch) (a : Nat → Nat) (S : SD) (x1 : Int32)  : zM G l y_D_letter b_D_letter 2 (some .int) (zR 1 21) [.ref (a 0), .int x1] (wD G a S) (fun r1 w1 => r1 = some (.int (F_D_letter S x1)) ∧ w1 = wD G a S) := by
  generalize hPost : (fun (r1 : Option Value) (w1 : va_W) => r1 = some (.int (F_D_letter S x1)) ∧ w1 = wD G a S) = Post
  have hq : Post (some (.int (F_D_letter S x1))) (wD G a S) := by rw [← hPost]; exact ⟨rfl, rfl⟩
  clear hPost
  refine zM_of (by decide) (Nat.le_of_ble_eq_true rfl) ?_
  intro p e s m args below meth c C hlk hr hin
  refine z_aload_n C 1 d_D_letter_0 rfl rfl ?_
  refine z_get C kf_D_12 0 (v := .ref (a 1)) 4 d_D_letter_1 rfl rfl rfl ?_
  refine z_iload_n C 5 d_D_letter_4 rfl rfl ?_
  refine z_go_drawn_ro C (z_V C kc_D_62 (c_K_sign G l (fun i => a (i + 1)) (sD_drawn S) x1) (st := []) 0 0 rfl rfl rfl rfl (Nat.le_of_ble_eq_true rfl) ⟨⟨Nat.le_of_ble_eq_true rfl, Nat.le_of_ble_eq_true rfl⟩, Nat.le_of_ble_eq_true rfl, Nat.le_of_ble_eq_true rfl⟩ d_D_letter_5) [.int (F_K_sign (sD_drawn S) x1)] 8 rfl rfl ?_
  exact z_iret C hlk hr d_D_letter_8 (by rw [show F_D_letter S x1 = (F_K_sign (sD_drawn S) x1) from by rw [F_D_letter]] at hq; exact hq)

def F_D_majority (S : SD) (x1 : Int32) : Int32 :=
  (F_K_winner (sD_drawn S) x1)
set_option maxRecDepth 100000 in
set_option maxHeartbeats 4000000 in
theorem c_D_majority (G : zG) (l : Launch) (a : Nat → Nat) (S : SD) (x1 : Int32)  : zM G l y_D_majority b_D_majority 2 (some .int) (zR 4 92) [.ref (a 0), .int x1] (wD G a S) (fun r1 w1 => r1 = some (.int (F_D_majority S x1)) ∧ w1 = wD G a S) := by
  generalize hPost : (fun (r1 : Option Value) (w1 : va_W) => r1 = some (.int (F_D_majority S x1)) ∧ w1 = wD G a S) = Post
  have hq : Post (some (.int (F_D_majority S x1))) (wD G a S) := by rw [← hPost]; exact ⟨rfl, rfl⟩
  clear hPost
  refine zM_of (by decide) (Nat.le_of_ble_eq_true rfl) ?_
  intro p e s m args below meth c C hlk hr hin
  refine z_aload_n C 1 d_D_majority_0 rfl rfl ?_
  refine z_get C kf_D_12 0 (v := .ref (a 1)) 4 d_D_majority_1 rfl rfl rfl ?_
  refine z_iload_n C 5 d_D_majority_4 rfl rfl ?_
  refine z_go_drawn_ro C (z_V C kc_D_66 (c_K_winner G l (fun i => a (i + 1)) (sD_drawn S) x1) (st := []) 0 0 rfl rfl rfl rfl (Nat.le_of_ble_eq_true rfl) ⟨⟨Nat.le_of_ble_eq_true rfl, Nat.le_of_ble_eq_true rfl⟩, Nat.le_of_ble_eq_true rfl, Nat.le_of_ble_eq_true rfl⟩ d_D_majority_5) [.int (F_K_winner (sD_drawn S) x1)] 8 rfl rfl ?_
  exact z_iret C hlk hr d_D_majority_8 (by rw [show F_D_majority S x1 = (F_K_winner (sD_drawn S) x1) from by rw [F_D_majority]] at hq; exact hq)

def F_D_ends (S : SD) (x1 : Int32) : Int32 :=
  if (F_K_isPattern (sD_drawn S) x1) = 0 then
    0
  else
    if 1500 < (F_K_lastDay (sD_drawn S) x1) then
      0
    else
      1
set_option maxRecDepth 100000 in
set_option maxHeartbeats 4000000 in
theorem c_D_ends (G : zG) (l : Launch) (a : Nat → Nat) (S : SD) (x1 : Int32)  : zM G l y_D_ends b_D_ends 2 (some .boolean) (zR 3 64) [.ref (a 0), .int x1] (wD G a S) (fun r1 w1 => r1 = some (.int (F_D_ends S x1)) ∧ w1 = wD G a S) := by
  generalize hPost : (fun (r1 : Option Value) (w1 : va_W) => r1 = some (.int (F_D_ends S x1)) ∧ w1 = wD G a S) = Post
  have hq : Post (some (.int (F_D_ends S x1))) (wD G a S) := by rw [← hPost]; exact ⟨rfl, rfl⟩
  clear hPost
  refine zM_of (by decide) (Nat.le_of_ble_eq_true rfl) ?_
  intro p e s m args below meth c C hlk hr hin
  refine z_aload_n C 1 d_D_ends_0 rfl rfl ?_
  refine z_get C kf_D_12 0 (v := .ref (a 1)) 4 d_D_ends_1 rfl rfl rfl ?_
  refine z_iload_n C 5 d_D_ends_4 rfl rfl ?_
  refine z_go_drawn_ro C (z_V C kc_D_69 (c_K_isPattern G l (fun i => a (i + 1)) (sD_drawn S) x1) (st := []) 0 0 rfl rfl rfl rfl (Nat.le_of_ble_eq_true rfl) ⟨⟨Nat.le_of_ble_eq_true rfl, Nat.le_of_ble_eq_true rfl⟩, Nat.le_of_ble_eq_true rfl, Nat.le_of_ble_eq_true rfl⟩ d_D_ends_5) [.int (F_K_isPattern (sD_drawn S) x1)] 8 rfl rfl ?_
  refine z_if_eq C 29 11 d_D_ends_8 (by decide) rfl (fun c_8 => ?_) (fun c_8 => ?_)
  · refine z_iconst C 0 30 d_D_ends_29 rfl (by decide) ?_
    exact z_zret C hlk rfl hr d_D_ends_30 (by rw [show F_D_ends S x1 = 0 from by rw [F_D_ends, if_pos c_8]] at hq; exact hq)
  · refine z_aload_n C 12 d_D_ends_11 rfl rfl ?_
    refine z_get C kf_D_12 0 (v := .ref (a 1)) 15 d_D_ends_12 rfl rfl rfl ?_
    refine z_iload_n C 16 d_D_ends_15 rfl rfl ?_
    refine z_go_drawn_ro C (z_V C kc_D_73 (c_K_lastDay G l (fun i => a (i + 1)) (sD_drawn S) x1) (st := []) 0 0 rfl rfl rfl rfl (Nat.le_of_ble_eq_true rfl) ⟨⟨Nat.le_of_ble_eq_true rfl, Nat.le_of_ble_eq_true rfl⟩, Nat.le_of_ble_eq_true rfl, Nat.le_of_ble_eq_true rfl⟩ d_D_ends_16) [.int (F_K_lastDay (sD_drawn S) x1)] 19 rfl rfl ?_
    refine z_sipush C 1500 22 d_D_ends_19 rfl (by decide) ?_
    refine z_icmp_gt C 29 25 d_D_ends_22 (by decide) rfl (fun c_22 => ?_) (fun c_22 => ?_)
    · refine z_iconst C 0 30 d_D_ends_29 rfl (by decide) ?_
      exact z_zret C hlk rfl hr d_D_ends_30 (by rw [show F_D_ends S x1 = 0 from by rw [F_D_ends, if_neg c_8, if_pos c_22]] at hq; exact hq)
    · refine z_iconst C 1 26 d_D_ends_25 rfl (by decide) ?_
      refine z_goto C 30 d_D_ends_26 (by decide) ?_
      exact z_zret C hlk rfl hr d_D_ends_30 (by rw [show F_D_ends S x1 = 1 from by rw [F_D_ends, if_neg c_8, if_neg c_22]] at hq; exact hq)

def F_D_draw (S : SD) (x1 : Int32) (x2 : Int32) : Int32 × SD :=
  if (F_D_canBeDrawn x1 x2) = 0 then
    ((-1), S)
  else
    ((F_K_count (F_K_fill (sD_drawn S) (sD_seed S) x1 x2)), (uD_leftParts (uD_together (uD_needed (uD_drawn S (F_K_fill (sD_drawn S) (sD_seed S) x1 x2)) (F_R_clear (sD_needed S))) (F_R_clear (sD_together S))) (F_K_allParts (F_K_fill (sD_drawn S) (sD_seed S) x1 x2))))
set_option maxRecDepth 100000 in
set_option maxHeartbeats 4000000 in
theorem c_D_draw (G : zG) (l : Launch) (a : Nat → Nat) (S : SD) (x1 : Int32) (x2 : Int32)  : zM G l y_D_draw b_D_draw 3 (some .int) (zR 6 139) [.ref (a 0), .int x1, .int x2] (wD G a S) (fun r1 w1 => r1 = some (.int (F_D_draw S x1 x2).1) ∧ w1 = wD G a (F_D_draw S x1 x2).2) := by
  generalize hPost : (fun (r1 : Option Value) (w1 : va_W) => r1 = some (.int (F_D_draw S x1 x2).1) ∧ w1 = wD G a (F_D_draw S x1 x2).2) = Post
  have hq : Post (some (.int (F_D_draw S x1 x2).1)) (wD G a (F_D_draw S x1 x2).2) := by rw [← hPost]; exact ⟨rfl, rfl⟩
  clear hPost
  refine zM_of (by decide) (Nat.le_of_ble_eq_true rfl) ?_
  intro p e s m args below meth c C hlk hr hin
  refine z_iload_n C 1 d_D_draw_0 rfl rfl ?_
  refine z_iload_n C 2 d_D_draw_1 rfl rfl ?_
  refine z_go0 C (z_S C kc_D_40 (c_D_canBeDrawn G l x1 x2) (st := []) rfl rfl (Nat.le_of_ble_eq_true rfl) ⟨⟨Nat.le_of_ble_eq_true rfl, Nat.le_of_ble_eq_true rfl⟩, Nat.le_of_ble_eq_true rfl, Nat.le_of_ble_eq_true rfl⟩ d_D_draw_2) [0, 1, 2, 3, 4, 5, 6, 7, 8, 9, 10, 11, 12, 13, 14, 15, 16] [.int (F_D_canBeDrawn x1 x2)] 5 rfl rfl rfl rfl ?_
  refine z_if_ne C 10 8 d_D_draw_5 (by decide) rfl (fun c_5 => ?_) (fun c_5 => ?_)
  · refine z_aload_n C 11 d_D_draw_10 rfl rfl ?_
    refine z_get C kf_D_12 0 (v := .ref (a 1)) 14 d_D_draw_11 rfl rfl rfl ?_
    refine z_aload_n C 15 d_D_draw_14 rfl rfl ?_
    refine z_get C kf_D_36 0 (v := .long (sD_seed S)) 18 d_D_draw_15 rfl rfl rfl ?_
    refine z_iload_n C 19 d_D_draw_18 rfl rfl ?_
    refine z_iload_n C 20 d_D_draw_19 rfl rfl ?_
    refine z_go_drawn C (z_V C kc_D_44 (c_K_fill G l (fun i => a (i + 1)) (sD_drawn S) (sD_seed S) x1 x2) (st := []) 0 0 rfl rfl rfl rfl (Nat.le_of_ble_eq_true rfl) ⟨⟨Nat.le_of_ble_eq_true rfl, Nat.le_of_ble_eq_true rfl⟩, Nat.le_of_ble_eq_true rfl, Nat.le_of_ble_eq_true rfl⟩ d_D_draw_20) [] 23 rfl rfl ?_
    refine z_aload_n C 24 d_D_draw_23 rfl rfl ?_
    refine z_get C kf_D_25 0 (v := .ref (a 13)) 27 d_D_draw_24 rfl rfl rfl ?_
    refine z_go_needed C (z_V C kc_D_48 (c_R_clear G l (fun i => a (i + 13)) (sD_needed S)) (st := []) 0 1 rfl rfl rfl rfl (Nat.le_of_ble_eq_true rfl) ⟨⟨Nat.le_of_ble_eq_true rfl, Nat.le_of_ble_eq_true rfl⟩, Nat.le_of_ble_eq_true rfl, Nat.le_of_ble_eq_true rfl⟩ d_D_draw_27) [] 30 rfl rfl ?_
    refine z_aload_n C 31 d_D_draw_30 rfl rfl ?_
    refine z_get C kf_D_29 0 (v := .ref (a 15)) 34 d_D_draw_31 rfl rfl rfl ?_
    refine z_go_together C (z_V C kc_D_48 (c_R_clear G l (fun i => a (i + 15)) (sD_together S)) (st := []) 0 1 rfl rfl rfl rfl (Nat.le_of_ble_eq_true rfl) ⟨⟨Nat.le_of_ble_eq_true rfl, Nat.le_of_ble_eq_true rfl⟩, Nat.le_of_ble_eq_true rfl, Nat.le_of_ble_eq_true rfl⟩ d_D_draw_34) [] 37 rfl rfl ?_
    refine z_aload_n C 38 d_D_draw_37 rfl rfl ?_
    refine z_aload_n C 39 d_D_draw_38 rfl rfl ?_
    refine z_get C kf_D_12 0 (v := .ref (a 1)) 42 d_D_draw_39 rfl rfl rfl ?_
    refine z_go_drawn_ro C (z_V C kc_D_51 (c_K_allParts G l (fun i => a (i + 1)) (F_K_fill (sD_drawn S) (sD_seed S) x1 x2)) (st := [.ref (a 0)]) 0 0 rfl rfl rfl rfl (Nat.le_of_ble_eq_true rfl) ⟨⟨Nat.le_of_ble_eq_true rfl, Nat.le_of_ble_eq_true rfl⟩, Nat.le_of_ble_eq_true rfl, Nat.le_of_ble_eq_true rfl⟩ d_D_draw_42) [.int (F_K_allParts (F_K_fill (sD_drawn S) (sD_seed S) x1 x2)), .ref (a 0)] 45 rfl rfl ?_
    refine z_put C kf_D_32 kp_D 0 (wD G a (uD_leftParts (uD_together (uD_needed (uD_drawn S (F_K_fill (sD_drawn S) (sD_seed S) x1 x2)) (F_R_clear (sD_needed S))) (F_R_clear (sD_together S))) (F_K_allParts (F_K_fill (sD_drawn S) (sD_seed S) x1 x2)))) 48 d_D_draw_45 rfl rfl rfl (znr_i _) (zft_i _) (Nat.le_of_ble_eq_true rfl) (wD_put_leftParts G a (uD_together (uD_needed (uD_drawn S (F_K_fill (sD_drawn S) (sD_seed S) x1 x2)) (F_R_clear (sD_needed S))) (F_R_clear (sD_together S))) (F_K_allParts (F_K_fill (sD_drawn S) (sD_seed S) x1 x2))) ?_
    refine z_aload_n C 49 d_D_draw_48 rfl rfl ?_
    refine z_get C kf_D_12 0 (v := .ref (a 1)) 52 d_D_draw_49 rfl rfl rfl ?_
    refine z_go_drawn_ro C (z_V C kc_D_55 (c_K_count G l (fun i => a (i + 1)) (F_K_fill (sD_drawn S) (sD_seed S) x1 x2)) (st := []) 0 0 rfl rfl rfl rfl (Nat.le_of_ble_eq_true rfl) ⟨⟨Nat.le_of_ble_eq_true rfl, Nat.le_of_ble_eq_true rfl⟩, Nat.le_of_ble_eq_true rfl, Nat.le_of_ble_eq_true rfl⟩ d_D_draw_52) [.int (F_K_count (F_K_fill (sD_drawn S) (sD_seed S) x1 x2))] 55 rfl rfl ?_
    exact z_iret C hlk hr d_D_draw_55 (by rw [show F_D_draw S x1 x2 = ((F_K_count (F_K_fill (sD_drawn S) (sD_seed S) x1 x2)), (uD_leftParts (uD_together (uD_needed (uD_drawn S (F_K_fill (sD_drawn S) (sD_seed S) x1 x2)) (F_R_clear (sD_needed S))) (F_R_clear (sD_together S))) (F_K_allParts (F_K_fill (sD_drawn S) (sD_seed S) x1 x2)))) from by rw [F_D_draw, if_neg c_5]] at hq; exact hq)
  · refine z_iconst C (-1) 9 d_D_draw_8 rfl (by decide) ?_
    exact z_iret C hlk hr d_D_draw_9 (by rw [show F_D_draw S x1 x2 = ((-1), S) from by rw [F_D_draw, if_pos c_5]] at hq; exact hq)

def F_D_verdict (S : SD) (x1 : Int32) (x2 : Int32) : SD :=
  if (F_K_count (sD_drawn S)) = 0 then
    S
  else
    if x2 = 0 then
      (uD_together S (F_R_add (sD_together S) (x1 &&& (F_K_allParts (sD_drawn S)))))
    else
      (uD_needed S (F_R_add (sD_needed S) (x1 &&& (F_K_allParts (sD_drawn S)))))
set_option maxRecDepth 100000 in
set_option maxHeartbeats 4000000 in
theorem c_D_verdict (G : zG) (l : Launch) (a : Nat → Nat) (S : SD) (x1 : Int32) (x2 : Int32)  : zM G l y_D_verdict b_D_verdict 4 (none) (zR 1 21) [.ref (a 0), .int x1, .int x2] (wD G a S) (fun r1 w1 => r1 = none ∧ w1 = wD G a (F_D_verdict S x1 x2)) := by
  generalize hPost : (fun (r1 : Option Value) (w1 : va_W) => r1 = none ∧ w1 = wD G a (F_D_verdict S x1 x2)) = Post
  have hq : Post (none) (wD G a (F_D_verdict S x1 x2)) := by rw [← hPost]; exact ⟨rfl, rfl⟩
  clear hPost
  refine zM_of (by decide) (Nat.le_of_ble_eq_true rfl) ?_
  intro p e s m args below meth c C hlk hr hin
  refine z_aload_n C 1 d_D_verdict_0 rfl rfl ?_
  refine z_get C kf_D_12 0 (v := .ref (a 1)) 4 d_D_verdict_1 rfl rfl rfl ?_
  refine z_go_drawn_ro C (z_V C kc_D_55 (c_K_count G l (fun i => a (i + 1)) (sD_drawn S)) (st := []) 0 0 rfl rfl rfl rfl (Nat.le_of_ble_eq_true rfl) ⟨⟨Nat.le_of_ble_eq_true rfl, Nat.le_of_ble_eq_true rfl⟩, Nat.le_of_ble_eq_true rfl, Nat.le_of_ble_eq_true rfl⟩ d_D_verdict_4) [.int (F_K_count (sD_drawn S))] 7 rfl rfl ?_
  refine z_if_ne C 11 10 d_D_verdict_7 (by decide) rfl (fun c_7 => ?_) (fun c_7 => ?_)
  · refine z_iload_n C 12 d_D_verdict_11 rfl rfl ?_
    refine z_aload_n C 13 d_D_verdict_12 rfl rfl ?_
    refine z_get C kf_D_12 0 (v := .ref (a 1)) 16 d_D_verdict_13 rfl rfl rfl ?_
    refine z_go_drawn_ro C (z_V C kc_D_51 (c_K_allParts G l (fun i => a (i + 1)) (sD_drawn S)) (st := [.int x1]) 0 0 rfl rfl rfl rfl (Nat.le_of_ble_eq_true rfl) ⟨⟨Nat.le_of_ble_eq_true rfl, Nat.le_of_ble_eq_true rfl⟩, Nat.le_of_ble_eq_true rfl, Nat.le_of_ble_eq_true rfl⟩ d_D_verdict_16) [.int (F_K_allParts (sD_drawn S)), .int x1] 19 rfl rfl ?_
    refine z_iand C 20 d_D_verdict_19 rfl ?_
    refine z_istore_n C [(3, .int (x1 &&& (F_K_allParts (sD_drawn S)))), (0, .ref (a 0)), (1, .int x1), (2, .int x2)] 21 d_D_verdict_20 rfl (by decide) rfl ?_
    refine z_iload_n C 22 d_D_verdict_21 rfl rfl ?_
    refine z_if_eq C 36 25 d_D_verdict_22 (by decide) rfl (fun c_22 => ?_) (fun c_22 => ?_)
    · refine z_aload_n C 37 d_D_verdict_36 rfl rfl ?_
      refine z_get C kf_D_29 0 (v := .ref (a 15)) 40 d_D_verdict_37 rfl rfl rfl ?_
      refine z_iload_n C 41 d_D_verdict_40 rfl rfl ?_
      refine z_go_together C (z_V C kc_D_79 (c_R_add G l (fun i => a (i + 15)) (sD_together S) (x1 &&& (F_K_allParts (sD_drawn S)))) (st := []) 0 1 rfl rfl rfl rfl (Nat.le_of_ble_eq_true rfl) ⟨⟨Nat.le_of_ble_eq_true rfl, Nat.le_of_ble_eq_true rfl⟩, Nat.le_of_ble_eq_true rfl, Nat.le_of_ble_eq_true rfl⟩ d_D_verdict_41) [] 44 rfl rfl ?_
      exact z_vret C hlk hr d_D_verdict_44 (by rw [show F_D_verdict S x1 x2 = (uD_together S (F_R_add (sD_together S) (x1 &&& (F_K_allParts (sD_drawn S))))) from by rw [F_D_verdict, if_neg c_7, if_pos c_22]] at hq; exact hq)
    · refine z_aload_n C 26 d_D_verdict_25 rfl rfl ?_
      refine z_get C kf_D_25 0 (v := .ref (a 13)) 29 d_D_verdict_26 rfl rfl rfl ?_
      refine z_iload_n C 30 d_D_verdict_29 rfl rfl ?_
      refine z_go_needed C (z_V C kc_D_79 (c_R_add G l (fun i => a (i + 13)) (sD_needed S) (x1 &&& (F_K_allParts (sD_drawn S)))) (st := []) 0 1 rfl rfl rfl rfl (Nat.le_of_ble_eq_true rfl) ⟨⟨Nat.le_of_ble_eq_true rfl, Nat.le_of_ble_eq_true rfl⟩, Nat.le_of_ble_eq_true rfl, Nat.le_of_ble_eq_true rfl⟩ d_D_verdict_30) [] 33 rfl rfl ?_
      refine z_goto C 44 d_D_verdict_33 (by decide) ?_
      exact z_vret C hlk hr d_D_verdict_44 (by rw [show F_D_verdict S x1 x2 = (uD_needed S (F_R_add (sD_needed S) (x1 &&& (F_K_allParts (sD_drawn S))))) from by rw [F_D_verdict, if_neg c_7, if_neg c_22]] at hq; exact hq)
  · exact z_vret C hlk hr d_D_verdict_10 (by rw [show F_D_verdict S x1 x2 = S from by rw [F_D_verdict, if_pos c_7]] at hq; exact hq)

def L_D_planted_16 : Nat → SD → Int32 → Int32 → Int32 → Int32
  | 0, S, v1, v2, v3 => 0
  | n + 1, S, v1, v2, v3 =>
    if (F_K_count (sD_drawn S)) ≤ v3 then
      v2
    else
      if (F_K_shows (sD_drawn S) v3 v1) = 0 then
        (L_D_planted_16 n S v1 v2 (v3 + 1))
      else
        (L_D_planted_16 n S v1 (v2 + 1) (v3 + 1))
set_option maxRecDepth 100000 in
set_option maxHeartbeats 4000000 in
theorem l_D_planted_16 (G : zG) (l : Launch) (a : Nat → Nat) {p : Program} {e : Env} {s : State} {m : MethodId} {args : Array Value} {below : List Frame} {meth : Method} {c : Code} {w0 : va_W} {Post : Option Value → va_W → Prop} (C : zC p s m args meth c b_D_planted 4 N_D G (va_A w0 s.heap.size)) (hlk : meth.locks = false) (hr : meth.sig.returnType = some .int) :
    ∀ (n : Nat) (S : SD) (v1 : Int32) (v2 : Int32) (v3 : Int32), (Int32.toInt (F_K_count (sD_drawn S)) - Int32.toInt v3).toNat < n → Post (some (.int (L_D_planted_16 n S v1 v2 v3))) (wD G a S) → zV p l e (zR 5 114) s m args below meth c 4 G (va_A w0 s.heap.size) (MQ below (zQ G w0 s.heap.size Post) args s 0 0 (va_A w0 s.heap.size)) 0 0 (wD G a S) 16 [(0, .ref (a 0)), (1, .int v1), (2, .int v2), (3, .int v3)] [] := by
  intro n
  induction n with
  | zero => intro S v1 v2 v3 h; exact absurd h (Nat.not_lt_zero _)
  | succ n ih =>
    intro S v1 v2 v3 hmu hq
    refine z_iload_n C 17 d_D_planted_16 rfl rfl ?_
    refine z_aload_n C 18 d_D_planted_17 rfl rfl ?_
    refine z_get C kf_D_12 0 (v := .ref (a 1)) 21 d_D_planted_18 rfl rfl rfl ?_
    refine z_go_drawn_ro C (z_V C kc_D_55 (c_K_count G l (fun i => a (i + 1)) (sD_drawn S)) (st := [.int v3]) 0 0 rfl rfl rfl rfl (Nat.le_of_ble_eq_true rfl) ⟨⟨Nat.le_of_ble_eq_true rfl, Nat.le_of_ble_eq_true rfl⟩, Nat.le_of_ble_eq_true rfl, Nat.le_of_ble_eq_true rfl⟩ d_D_planted_21) [.int (F_K_count (sD_drawn S)), .int v3] 24 rfl rfl ?_
    refine z_icmp_ge C 48 27 d_D_planted_24 (by decide) rfl (fun c_24 => ?_) (fun c_24 => ?_)
    · refine z_iload_n C 49 d_D_planted_48 rfl rfl ?_
      exact z_iret C hlk hr d_D_planted_49 (by rw [show L_D_planted_16 (n + 1) S v1 v2 v3 = v2 from by rw [L_D_planted_16, if_pos c_24]] at hq; exact hq)
    · refine z_aload_n C 28 d_D_planted_27 rfl rfl ?_
      refine z_get C kf_D_12 0 (v := .ref (a 1)) 31 d_D_planted_28 rfl rfl rfl ?_
      refine z_iload_n C 32 d_D_planted_31 rfl rfl ?_
      refine z_iload_n C 33 d_D_planted_32 rfl rfl ?_
      refine z_go_drawn_ro C (z_V C kc_D_76 (c_K_shows G l (fun i => a (i + 1)) (sD_drawn S) v3 v1) (st := []) 0 0 rfl rfl rfl rfl (Nat.le_of_ble_eq_true rfl) ⟨⟨Nat.le_of_ble_eq_true rfl, Nat.le_of_ble_eq_true rfl⟩, Nat.le_of_ble_eq_true rfl, Nat.le_of_ble_eq_true rfl⟩ d_D_planted_33) [.int (F_K_shows (sD_drawn S) v3 v1)] 36 rfl rfl ?_
      refine z_if_eq C 42 39 d_D_planted_36 (by decide) rfl (fun c_36 => ?_) (fun c_36 => ?_)
      · refine z_iinc C (v3 + 1) [(3, .int (v3 + 1)), (0, .ref (a 0)), (1, .int v1), (2, .int v2)] 45 d_D_planted_42 rfl (by decide) rfl rfl rfl ?_
        refine z_goto C 16 d_D_planted_45 (by decide) ?_
        refine z_lvs [1, 2, 3, 0] [(0, .ref (a 0)), (1, .int v1), (2, .int v2), (3, .int (v3 + 1))] rfl ?_
        exact ih S v1 v2 (v3 + 1) (zdec c_24 hmu) (by rw [show L_D_planted_16 (n + 1) S v1 v2 v3 = (L_D_planted_16 n S v1 v2 (v3 + 1)) from by rw [L_D_planted_16, if_neg c_24, if_pos c_36]] at hq; exact hq)
      · refine z_iinc C (v2 + 1) [(2, .int (v2 + 1)), (0, .ref (a 0)), (1, .int v1), (3, .int v3)] 42 d_D_planted_39 rfl (by decide) rfl rfl rfl ?_
        refine z_iinc C (v3 + 1) [(3, .int (v3 + 1)), (2, .int (v2 + 1)), (0, .ref (a 0)), (1, .int v1)] 45 d_D_planted_42 rfl (by decide) rfl rfl rfl ?_
        refine z_goto C 16 d_D_planted_45 (by decide) ?_
        refine z_lvs [2, 3, 1, 0] [(0, .ref (a 0)), (1, .int v1), (2, .int (v2 + 1)), (3, .int (v3 + 1))] rfl ?_
        exact ih S v1 (v2 + 1) (v3 + 1) (zdec c_24 hmu) (by rw [show L_D_planted_16 (n + 1) S v1 v2 v3 = (L_D_planted_16 n S v1 (v2 + 1) (v3 + 1)) from by rw [L_D_planted_16, if_neg c_24, if_neg c_36]] at hq; exact hq)
def F_D_planted (S : SD) (x1 : Int32) : Int32 :=
  if x1 < 0 then
    (-1)
  else
    if x1 < 8 then
      (L_D_planted_16 ((Int32.toInt (F_K_count (sD_drawn S)) - Int32.toInt 0).toNat + 1) S x1 0 0)
    else
      (-1)
set_option maxRecDepth 100000 in
set_option maxHeartbeats 4000000 in
theorem c_D_planted (G : zG) (l : Launch) (a : Nat → Nat) (S : SD) (x1 : Int32)  : zM G l y_D_planted b_D_planted 4 (some .int) (zR 5 114) [.ref (a 0), .int x1] (wD G a S) (fun r1 w1 => r1 = some (.int (F_D_planted S x1)) ∧ w1 = wD G a S) := by
  generalize hPost : (fun (r1 : Option Value) (w1 : va_W) => r1 = some (.int (F_D_planted S x1)) ∧ w1 = wD G a S) = Post
  have hq : Post (some (.int (F_D_planted S x1))) (wD G a S) := by rw [← hPost]; exact ⟨rfl, rfl⟩
  clear hPost
  refine zM_of (by decide) (Nat.le_of_ble_eq_true rfl) ?_
  intro p e s m args below meth c C hlk hr hin
  refine z_iload_n C 1 d_D_planted_0 rfl rfl ?_
  refine z_if_lt C 10 4 d_D_planted_1 (by decide) rfl (fun c_1 => ?_) (fun c_1 => ?_)
  · refine z_iconst C (-1) 11 d_D_planted_10 rfl (by decide) ?_
    exact z_iret C hlk hr d_D_planted_11 (by rw [show F_D_planted S x1 = (-1) from by rw [F_D_planted, if_pos c_1]] at hq; exact hq)
  · refine z_iload_n C 5 d_D_planted_4 rfl rfl ?_
    refine z_bipush C 8 7 d_D_planted_5 rfl (by decide) ?_
    refine z_icmp_lt C 12 10 d_D_planted_7 (by decide) rfl (fun c_7 => ?_) (fun c_7 => ?_)
    · refine z_iconst C 0 13 d_D_planted_12 rfl (by decide) ?_
      refine z_istore_n C [(2, .int 0), (0, .ref (a 0)), (1, .int x1)] 14 d_D_planted_13 rfl (by decide) rfl ?_
      refine z_iconst C 0 15 d_D_planted_14 rfl (by decide) ?_
      refine z_istore_n C [(3, .int 0), (2, .int 0), (0, .ref (a 0)), (1, .int x1)] 16 d_D_planted_15 rfl (by decide) rfl ?_
      refine z_lvs [2, 3, 1, 0] [(0, .ref (a 0)), (1, .int x1), (2, .int 0), (3, .int 0)] rfl ?_
      exact l_D_planted_16 G l a C hlk hr _ S x1 0 0 (Nat.lt_succ_self _) (by rw [show F_D_planted S x1 = (L_D_planted_16 ((Int32.toInt (F_K_count (sD_drawn S)) - Int32.toInt 0).toNat + 1) S x1 0 0) from by rw [F_D_planted, if_neg c_1, if_pos c_7]] at hq; exact hq)
    · refine z_iconst C (-1) 11 d_D_planted_10 rfl (by decide) ?_
      exact z_iret C hlk hr d_D_planted_11 (by rw [show F_D_planted S x1 = (-1) from by rw [F_D_planted, if_neg c_1, if_neg c_7]] at hq; exact hq)

def L_D_left_4 : Nat → SD → Int32 → Int32 → Int32 → Int32
  | 0, S, v1, v2, v3 => 0
  | n + 1, S, v1, v2, v3 =>
    if (F_K_count (sD_drawn S)) ≤ v3 then
      (-1)
    else
      if (F_D_isIn v3 (sD_leftParts S)) = 0 then
        (L_D_left_4 n S v1 v2 (v3 + 1))
      else
        if v2 = v1 then
          v3
        else
          (L_D_left_4 n S v1 (v2 + 1) (v3 + 1))
set_option maxRecDepth 100000 in
set_option maxHeartbeats 4000000 in
theorem l_D_left_4 (G : zG) (l : Launch) (a : Nat → Nat) {p : Program} {e : Env} {s : State} {m : MethodId} {args : Array Value} {below : List Frame} {meth : Method} {c : Code} {w0 : va_W} {Post : Option Value → va_W → Prop} (C : zC p s m args meth c b_D_left 4 N_D G (va_A w0 s.heap.size)) (hlk : meth.locks = false) (hr : meth.sig.returnType = some .int) :
    ∀ (n : Nat) (S : SD) (v1 : Int32) (v2 : Int32) (v3 : Int32), (Int32.toInt (F_K_count (sD_drawn S)) - Int32.toInt v3).toNat < n → Post (some (.int (L_D_left_4 n S v1 v2 v3))) (wD G a S) → zV p l e (zR 1 21) s m args below meth c 4 G (va_A w0 s.heap.size) (MQ below (zQ G w0 s.heap.size Post) args s 0 0 (va_A w0 s.heap.size)) 0 0 (wD G a S) 4 [(0, .ref (a 0)), (1, .int v1), (2, .int v2), (3, .int v3)] [] := by
  intro n
  induction n with
  | zero => intro S v1 v2 v3 h; exact absurd h (Nat.not_lt_zero _)
  | succ n ih =>
    intro S v1 v2 v3 hmu hq
    refine z_iload_n C 5 d_D_left_4 rfl rfl ?_
    refine z_aload_n C 6 d_D_left_5 rfl rfl ?_
    refine z_get C kf_D_12 0 (v := .ref (a 1)) 9 d_D_left_6 rfl rfl rfl ?_
    refine z_go_drawn_ro C (z_V C kc_D_55 (c_K_count G l (fun i => a (i + 1)) (sD_drawn S)) (st := [.int v3]) 0 0 rfl rfl rfl rfl (Nat.le_of_ble_eq_true rfl) ⟨⟨Nat.le_of_ble_eq_true rfl, Nat.le_of_ble_eq_true rfl⟩, Nat.le_of_ble_eq_true rfl, Nat.le_of_ble_eq_true rfl⟩ d_D_left_9) [.int (F_K_count (sD_drawn S)), .int v3] 12 rfl rfl ?_
    refine z_icmp_ge C 42 15 d_D_left_12 (by decide) rfl (fun c_12 => ?_) (fun c_12 => ?_)
    · refine z_iconst C (-1) 43 d_D_left_42 rfl (by decide) ?_
      exact z_iret C hlk hr d_D_left_43 (by rw [show L_D_left_4 (n + 1) S v1 v2 v3 = (-1) from by rw [L_D_left_4, if_pos c_12]] at hq; exact hq)
    · refine z_iload_n C 16 d_D_left_15 rfl rfl ?_
      refine z_aload_n C 17 d_D_left_16 rfl rfl ?_
      refine z_get C kf_D_32 0 (v := .int (sD_leftParts S)) 20 d_D_left_17 rfl rfl rfl ?_
      refine z_go0 C (z_S C kc_D_91 (c_D_isIn G l v3 (sD_leftParts S)) (st := []) rfl rfl (Nat.le_of_ble_eq_true rfl) ⟨⟨Nat.le_of_ble_eq_true rfl, Nat.le_of_ble_eq_true rfl⟩, Nat.le_of_ble_eq_true rfl, Nat.le_of_ble_eq_true rfl⟩ d_D_left_20) [0, 1, 2, 3, 4, 5, 6, 7, 8, 9, 10, 11, 12, 13, 14, 15, 16] [.int (F_D_isIn v3 (sD_leftParts S))] 23 rfl rfl rfl rfl ?_
      refine z_if_eq C 36 26 d_D_left_23 (by decide) rfl (fun c_23 => ?_) (fun c_23 => ?_)
      · refine z_iinc C (v3 + 1) [(3, .int (v3 + 1)), (0, .ref (a 0)), (1, .int v1), (2, .int v2)] 39 d_D_left_36 rfl (by decide) rfl rfl rfl ?_
        refine z_goto C 4 d_D_left_39 (by decide) ?_
        refine z_lvs [1, 2, 3, 0] [(0, .ref (a 0)), (1, .int v1), (2, .int v2), (3, .int (v3 + 1))] rfl ?_
        exact ih S v1 v2 (v3 + 1) (zdec c_12 hmu) (by rw [show L_D_left_4 (n + 1) S v1 v2 v3 = (L_D_left_4 n S v1 v2 (v3 + 1)) from by rw [L_D_left_4, if_neg c_12, if_pos c_23]] at hq; exact hq)
      · refine z_iload_n C 27 d_D_left_26 rfl rfl ?_
        refine z_iload_n C 28 d_D_left_27 rfl rfl ?_
        refine z_icmp_ne C 33 31 d_D_left_28 (by decide) rfl (fun c_28 => ?_) (fun c_28 => ?_)
        · refine z_iinc C (v2 + 1) [(2, .int (v2 + 1)), (0, .ref (a 0)), (1, .int v1), (3, .int v3)] 36 d_D_left_33 rfl (by decide) rfl rfl rfl ?_
          refine z_iinc C (v3 + 1) [(3, .int (v3 + 1)), (2, .int (v2 + 1)), (0, .ref (a 0)), (1, .int v1)] 39 d_D_left_36 rfl (by decide) rfl rfl rfl ?_
          refine z_goto C 4 d_D_left_39 (by decide) ?_
          refine z_lvs [2, 3, 1, 0] [(0, .ref (a 0)), (1, .int v1), (2, .int (v2 + 1)), (3, .int (v3 + 1))] rfl ?_
          exact ih S v1 (v2 + 1) (v3 + 1) (zdec c_12 hmu) (by rw [show L_D_left_4 (n + 1) S v1 v2 v3 = (L_D_left_4 n S v1 (v2 + 1) (v3 + 1)) from by rw [L_D_left_4, if_neg c_12, if_neg c_23, if_neg c_28]] at hq; exact hq)
        · refine z_iload_n C 32 d_D_left_31 rfl rfl ?_
          exact z_iret C hlk hr d_D_left_32 (by rw [show L_D_left_4 (n + 1) S v1 v2 v3 = v3 from by rw [L_D_left_4, if_neg c_12, if_neg c_23, if_pos c_28]] at hq; exact hq)
def F_D_left (S : SD) (x1 : Int32) : Int32 :=
  (L_D_left_4 ((Int32.toInt (F_K_count (sD_drawn S)) - Int32.toInt 0).toNat + 1) S x1 0 0)
set_option maxRecDepth 100000 in
set_option maxHeartbeats 4000000 in
theorem c_D_left (G : zG) (l : Launch) (a : Nat → Nat) (S : SD) (x1 : Int32)  : zM G l y_D_left b_D_left 4 (some .int) (zR 1 21) [.ref (a 0), .int x1] (wD G a S) (fun r1 w1 => r1 = some (.int (F_D_left S x1)) ∧ w1 = wD G a S) := by
  generalize hPost : (fun (r1 : Option Value) (w1 : va_W) => r1 = some (.int (F_D_left S x1)) ∧ w1 = wD G a S) = Post
  have hq : Post (some (.int (F_D_left S x1))) (wD G a S) := by rw [← hPost]; exact ⟨rfl, rfl⟩
  clear hPost
  refine zM_of (by decide) (Nat.le_of_ble_eq_true rfl) ?_
  intro p e s m args below meth c C hlk hr hin
  refine z_iconst C 0 1 d_D_left_0 rfl (by decide) ?_
  refine z_istore_n C [(2, .int 0), (0, .ref (a 0)), (1, .int x1)] 2 d_D_left_1 rfl (by decide) rfl ?_
  refine z_iconst C 0 3 d_D_left_2 rfl (by decide) ?_
  refine z_istore_n C [(3, .int 0), (2, .int 0), (0, .ref (a 0)), (1, .int x1)] 4 d_D_left_3 rfl (by decide) rfl ?_
  refine z_lvs [2, 3, 1, 0] [(0, .ref (a 0)), (1, .int x1), (2, .int 0), (3, .int 0)] rfl ?_
  exact l_D_left_4 G l a C hlk hr _ S x1 0 0 (Nat.lt_succ_self _) (by rw [show F_D_left S x1 = (L_D_left_4 ((Int32.toInt (F_K_count (sD_drawn S)) - Int32.toInt 0).toNat + 1) S x1 0 0) from by rw [F_D_left]] at hq; exact hq)

def L_D_minimal_15 : Nat → SD → Int32 → Int32
  | 0, S, v1 => 0
  | n + 1, S, v1 =>
    if (F_K_count (sD_drawn S)) ≤ v1 then
      1
    else
      if (F_D_isIn v1 (sD_leftParts S)) = 0 then
        (L_D_minimal_15 n S (v1 + 1))
      else
        if (F_D_staysFor S (F_D_without v1 (sD_leftParts S))) = 0 then
          (L_D_minimal_15 n S (v1 + 1))
        else
          0
set_option maxRecDepth 100000 in
set_option maxHeartbeats 4000000 in
theorem l_D_minimal_15 (G : zG) (l : Launch) (a : Nat → Nat) {p : Program} {e : Env} {s : State} {m : MethodId} {args : Array Value} {below : List Frame} {meth : Method} {c : Code} {w0 : va_W} {Post : Option Value → va_W → Prop} (C : zC p s m args meth c b_D_minimal 2 N_D G (va_A w0 s.heap.size)) (hlk : meth.locks = false) (hr : meth.sig.returnType = some .boolean) :
    ∀ (n : Nat) (S : SD) (v1 : Int32), (Int32.toInt (F_K_count (sD_drawn S)) - Int32.toInt v1).toNat < n → Post (some (.int (L_D_minimal_15 n S v1))) (wD G a S) → zV p l e (zR 2 44) s m args below meth c 2 G (va_A w0 s.heap.size) (MQ below (zQ G w0 s.heap.size Post) args s 0 0 (va_A w0 s.heap.size)) 0 0 (wD G a S) 15 [(0, .ref (a 0)), (1, .int v1)] [] := by
  intro n
  induction n with
  | zero => intro S v1 h; exact absurd h (Nat.not_lt_zero _)
  | succ n ih =>
    intro S v1 hmu hq
    refine z_iload_n C 16 d_D_minimal_15 rfl rfl ?_
    refine z_aload_n C 17 d_D_minimal_16 rfl rfl ?_
    refine z_get C kf_D_12 0 (v := .ref (a 1)) 20 d_D_minimal_17 rfl rfl rfl ?_
    refine z_go_drawn_ro C (z_V C kc_D_55 (c_K_count G l (fun i => a (i + 1)) (sD_drawn S)) (st := [.int v1]) 0 0 rfl rfl rfl rfl (Nat.le_of_ble_eq_true rfl) ⟨⟨Nat.le_of_ble_eq_true rfl, Nat.le_of_ble_eq_true rfl⟩, Nat.le_of_ble_eq_true rfl, Nat.le_of_ble_eq_true rfl⟩ d_D_minimal_20) [.int (F_K_count (sD_drawn S)), .int v1] 23 rfl rfl ?_
    refine z_icmp_ge C 60 26 d_D_minimal_23 (by decide) rfl (fun c_23 => ?_) (fun c_23 => ?_)
    · refine z_iconst C 1 61 d_D_minimal_60 rfl (by decide) ?_
      exact z_zret C hlk rfl hr d_D_minimal_61 (by rw [show L_D_minimal_15 (n + 1) S v1 = 1 from by rw [L_D_minimal_15, if_pos c_23]] at hq; exact hq)
    · refine z_iload_n C 27 d_D_minimal_26 rfl rfl ?_
      refine z_aload_n C 28 d_D_minimal_27 rfl rfl ?_
      refine z_get C kf_D_32 0 (v := .int (sD_leftParts S)) 31 d_D_minimal_28 rfl rfl rfl ?_
      refine z_go0 C (z_S C kc_D_91 (c_D_isIn G l v1 (sD_leftParts S)) (st := []) rfl rfl (Nat.le_of_ble_eq_true rfl) ⟨⟨Nat.le_of_ble_eq_true rfl, Nat.le_of_ble_eq_true rfl⟩, Nat.le_of_ble_eq_true rfl, Nat.le_of_ble_eq_true rfl⟩ d_D_minimal_31) [0, 1, 2, 3, 4, 5, 6, 7, 8, 9, 10, 11, 12, 13, 14, 15, 16] [.int (F_D_isIn v1 (sD_leftParts S))] 34 rfl rfl rfl rfl ?_
      refine z_if_eq C 54 37 d_D_minimal_34 (by decide) rfl (fun c_34 => ?_) (fun c_34 => ?_)
      · refine z_iinc C (v1 + 1) [(1, .int (v1 + 1)), (0, .ref (a 0))] 57 d_D_minimal_54 rfl (by decide) rfl rfl rfl ?_
        refine z_goto C 15 d_D_minimal_57 (by decide) ?_
        refine z_lvs [1, 0] [(0, .ref (a 0)), (1, .int (v1 + 1))] rfl ?_
        exact ih S (v1 + 1) (zdec c_23 hmu) (by rw [show L_D_minimal_15 (n + 1) S v1 = (L_D_minimal_15 n S (v1 + 1)) from by rw [L_D_minimal_15, if_neg c_23, if_pos c_34]] at hq; exact hq)
      · refine z_aload_n C 38 d_D_minimal_37 rfl rfl ?_
        refine z_iload_n C 39 d_D_minimal_38 rfl rfl ?_
        refine z_aload_n C 40 d_D_minimal_39 rfl rfl ?_
        refine z_get C kf_D_32 0 (v := .int (sD_leftParts S)) 43 d_D_minimal_40 rfl rfl rfl ?_
        refine z_go0 C (z_S C kc_D_97 (c_D_without G l v1 (sD_leftParts S)) (st := [.ref (a 0)]) rfl rfl (Nat.le_of_ble_eq_true rfl) ⟨⟨Nat.le_of_ble_eq_true rfl, Nat.le_of_ble_eq_true rfl⟩, Nat.le_of_ble_eq_true rfl, Nat.le_of_ble_eq_true rfl⟩ d_D_minimal_43) [0, 1, 2, 3, 4, 5, 6, 7, 8, 9, 10, 11, 12, 13, 14, 15, 16] [.int (F_D_without v1 (sD_leftParts S)), .ref (a 0)] 46 rfl rfl rfl rfl ?_
        refine z_goA C (z_V C kc_D_94 (c_D_staysFor G l a S (F_D_without v1 (sD_leftParts S))) (st := []) 0 2 rfl rfl rfl rfl (Nat.le_of_ble_eq_true rfl) ⟨⟨Nat.le_of_ble_eq_true rfl, Nat.le_of_ble_eq_true rfl⟩, Nat.le_of_ble_eq_true rfl, Nat.le_of_ble_eq_true rfl⟩ d_D_minimal_46) [.int (F_D_staysFor S (F_D_without v1 (sD_leftParts S)))] 49 rfl rfl ?_
        refine z_if_eq C 54 52 d_D_minimal_49 (by decide) rfl (fun c_49 => ?_) (fun c_49 => ?_)
        · refine z_iinc C (v1 + 1) [(1, .int (v1 + 1)), (0, .ref (a 0))] 57 d_D_minimal_54 rfl (by decide) rfl rfl rfl ?_
          refine z_goto C 15 d_D_minimal_57 (by decide) ?_
          refine z_lvs [1, 0] [(0, .ref (a 0)), (1, .int (v1 + 1))] rfl ?_
          exact ih S (v1 + 1) (zdec c_23 hmu) (by rw [show L_D_minimal_15 (n + 1) S v1 = (L_D_minimal_15 n S (v1 + 1)) from by rw [L_D_minimal_15, if_neg c_23, if_neg c_34, if_pos c_49]] at hq; exact hq)
        · refine z_iconst C 0 53 d_D_minimal_52 rfl (by decide) ?_
          exact z_zret C hlk rfl hr d_D_minimal_53 (by rw [show L_D_minimal_15 (n + 1) S v1 = 0 from by rw [L_D_minimal_15, if_neg c_23, if_neg c_34, if_neg c_49]] at hq; exact hq)
def F_D_minimal (S : SD)  : Int32 :=
  if (F_D_staysFor S (sD_leftParts S)) = 0 then
    0
  else
    (L_D_minimal_15 ((Int32.toInt (F_K_count (sD_drawn S)) - Int32.toInt 0).toNat + 1) S 0)
set_option maxRecDepth 100000 in
set_option maxHeartbeats 4000000 in
theorem c_D_minimal (G : zG) (l : Launch) (a : Nat → Nat) (S : SD)   : zM G l y_D_minimal b_D_minimal 2 (some .boolean) (zR 2 44) [.ref (a 0)] (wD G a S) (fun r1 w1 => r1 = some (.int (F_D_minimal S)) ∧ w1 = wD G a S) := by
  generalize hPost : (fun (r1 : Option Value) (w1 : va_W) => r1 = some (.int (F_D_minimal S)) ∧ w1 = wD G a S) = Post
  have hq : Post (some (.int (F_D_minimal S))) (wD G a S) := by rw [← hPost]; exact ⟨rfl, rfl⟩
  clear hPost
  refine zM_of (by decide) (Nat.le_of_ble_eq_true rfl) ?_
  intro p e s m args below meth c C hlk hr hin
  refine z_aload_n C 1 d_D_minimal_0 rfl rfl ?_
  refine z_aload_n C 2 d_D_minimal_1 rfl rfl ?_
  refine z_get C kf_D_32 0 (v := .int (sD_leftParts S)) 5 d_D_minimal_2 rfl rfl rfl ?_
  refine z_goA C (z_V C kc_D_94 (c_D_staysFor G l a S (sD_leftParts S)) (st := []) 0 2 rfl rfl rfl rfl (Nat.le_of_ble_eq_true rfl) ⟨⟨Nat.le_of_ble_eq_true rfl, Nat.le_of_ble_eq_true rfl⟩, Nat.le_of_ble_eq_true rfl, Nat.le_of_ble_eq_true rfl⟩ d_D_minimal_5) [.int (F_D_staysFor S (sD_leftParts S))] 8 rfl rfl ?_
  refine z_if_ne C 13 11 d_D_minimal_8 (by decide) rfl (fun c_8 => ?_) (fun c_8 => ?_)
  · refine z_iconst C 0 14 d_D_minimal_13 rfl (by decide) ?_
    refine z_istore_n C [(1, .int 0), (0, .ref (a 0))] 15 d_D_minimal_14 rfl (by decide) rfl ?_
    refine z_lvs [1, 0] [(0, .ref (a 0)), (1, .int 0)] rfl ?_
    exact l_D_minimal_15 G l a C hlk hr _ S 0 (Nat.lt_succ_self _) (by rw [show F_D_minimal S = (L_D_minimal_15 ((Int32.toInt (F_K_count (sD_drawn S)) - Int32.toInt 0).toNat + 1) S 0) from by rw [F_D_minimal, if_neg c_8]] at hq; exact hq)
  · refine z_iconst C 0 12 d_D_minimal_11 rfl (by decide) ?_
    exact z_zret C hlk rfl hr d_D_minimal_12 (by rw [show F_D_minimal S = 0 from by rw [F_D_minimal, if_pos c_8]] at hq; exact hq)

def L_D_afterOneGoing_5 : Nat → SD → Int32 → Int32 → Int32
  | 0, S, v2, v3 => 0
  | n + 1, S, v2, v3 =>
    if v3 < 0 then
      v2
    else
      if (F_D_isIn v3 v2) = 0 then
        (L_D_afterOneGoing_5 n S v2 (v3 + (-1)))
      else
        if (F_D_staysFor S (F_D_without v3 v2)) = 0 then
          (L_D_afterOneGoing_5 n S v2 (v3 + (-1)))
        else
          (L_D_afterOneGoing_5 n S (F_D_without v3 v2) (v3 + (-1)))
set_option maxRecDepth 100000 in
set_option maxHeartbeats 4000000 in
theorem l_D_afterOneGoing_5 (G : zG) (l : Launch) (a : Nat → Nat) {p : Program} {e : Env} {s : State} {m : MethodId} {args : Array Value} {below : List Frame} {meth : Method} {c : Code} {w0 : va_W} {Post : Option Value → va_W → Prop} (C : zC p s m args meth c b_D_afterOneGoing 4 N_D G (va_A w0 s.heap.size)) (hlk : meth.locks = false) (hr : meth.sig.returnType = some .int) :
    ∀ (n : Nat) (S : SD) (v2 : Int32) (v3 : Int32), (Int32.toInt v3 + 1).toNat < n → Post (some (.int (L_D_afterOneGoing_5 n S v2 v3))) (wD G a S) → zV p l e (zR 2 44) s m args below meth c 4 G (va_A w0 s.heap.size) (MQ below (zQ G w0 s.heap.size Post) args s 0 0 (va_A w0 s.heap.size)) 0 0 (wD G a S) 5 [(0, .ref (a 0)), (2, .int v2), (3, .int v3)] [] := by
  intro n
  induction n with
  | zero => intro S v2 v3 h; exact absurd h (Nat.not_lt_zero _)
  | succ n ih =>
    intro S v2 v3 hmu hq
    refine z_iload_n C 6 d_D_afterOneGoing_5 rfl rfl ?_
    refine z_if_lt C 41 9 d_D_afterOneGoing_6 (by decide) rfl (fun c_6 => ?_) (fun c_6 => ?_)
    · refine z_iload_n C 42 d_D_afterOneGoing_41 rfl rfl ?_
      exact z_iret C hlk hr d_D_afterOneGoing_42 (by rw [show L_D_afterOneGoing_5 (n + 1) S v2 v3 = v2 from by rw [L_D_afterOneGoing_5, if_pos c_6]] at hq; exact hq)
    · refine z_iload_n C 10 d_D_afterOneGoing_9 rfl rfl ?_
      refine z_iload_n C 11 d_D_afterOneGoing_10 rfl rfl ?_
      refine z_go0 C (z_S C kc_D_91 (c_D_isIn G l v3 v2) (st := []) rfl rfl (Nat.le_of_ble_eq_true rfl) ⟨⟨Nat.le_of_ble_eq_true rfl, Nat.le_of_ble_eq_true rfl⟩, Nat.le_of_ble_eq_true rfl, Nat.le_of_ble_eq_true rfl⟩ d_D_afterOneGoing_11) [0, 1, 2, 3, 4, 5, 6, 7, 8, 9, 10, 11, 12, 13, 14, 15, 16] [.int (F_D_isIn v3 v2)] 14 rfl rfl rfl rfl ?_
      refine z_if_eq C 35 17 d_D_afterOneGoing_14 (by decide) rfl (fun c_14 => ?_) (fun c_14 => ?_)
      · refine z_iinc C (v3 + (-1)) [(3, .int (v3 + (-1))), (0, .ref (a 0)), (2, .int v2)] 38 d_D_afterOneGoing_35 rfl (by decide) rfl rfl rfl ?_
        refine z_goto C 5 d_D_afterOneGoing_38 (by decide) ?_
        refine z_lvs [1, 2, 0] [(0, .ref (a 0)), (2, .int v2), (3, .int (v3 + (-1)))] rfl ?_
        exact ih S v2 (v3 + (-1)) (zdecD c_6 hmu) (by rw [show L_D_afterOneGoing_5 (n + 1) S v2 v3 = (L_D_afterOneGoing_5 n S v2 (v3 + (-1))) from by rw [L_D_afterOneGoing_5, if_neg c_6, if_pos c_14]] at hq; exact hq)
      · refine z_aload_n C 18 d_D_afterOneGoing_17 rfl rfl ?_
        refine z_iload_n C 19 d_D_afterOneGoing_18 rfl rfl ?_
        refine z_iload_n C 20 d_D_afterOneGoing_19 rfl rfl ?_
        refine z_go0 C (z_S C kc_D_97 (c_D_without G l v3 v2) (st := [.ref (a 0)]) rfl rfl (Nat.le_of_ble_eq_true rfl) ⟨⟨Nat.le_of_ble_eq_true rfl, Nat.le_of_ble_eq_true rfl⟩, Nat.le_of_ble_eq_true rfl, Nat.le_of_ble_eq_true rfl⟩ d_D_afterOneGoing_20) [0, 1, 2, 3, 4, 5, 6, 7, 8, 9, 10, 11, 12, 13, 14, 15, 16] [.int (F_D_without v3 v2), .ref (a 0)] 23 rfl rfl rfl rfl ?_
        refine z_goA C (z_V C kc_D_94 (c_D_staysFor G l a S (F_D_without v3 v2)) (st := []) 0 2 rfl rfl rfl rfl (Nat.le_of_ble_eq_true rfl) ⟨⟨Nat.le_of_ble_eq_true rfl, Nat.le_of_ble_eq_true rfl⟩, Nat.le_of_ble_eq_true rfl, Nat.le_of_ble_eq_true rfl⟩ d_D_afterOneGoing_23) [.int (F_D_staysFor S (F_D_without v3 v2))] 26 rfl rfl ?_
        refine z_if_eq C 35 29 d_D_afterOneGoing_26 (by decide) rfl (fun c_26 => ?_) (fun c_26 => ?_)
        · refine z_iinc C (v3 + (-1)) [(3, .int (v3 + (-1))), (0, .ref (a 0)), (2, .int v2)] 38 d_D_afterOneGoing_35 rfl (by decide) rfl rfl rfl ?_
          refine z_goto C 5 d_D_afterOneGoing_38 (by decide) ?_
          refine z_lvs [1, 2, 0] [(0, .ref (a 0)), (2, .int v2), (3, .int (v3 + (-1)))] rfl ?_
          exact ih S v2 (v3 + (-1)) (zdecD c_6 hmu) (by rw [show L_D_afterOneGoing_5 (n + 1) S v2 v3 = (L_D_afterOneGoing_5 n S v2 (v3 + (-1))) from by rw [L_D_afterOneGoing_5, if_neg c_6, if_neg c_14, if_pos c_26]] at hq; exact hq)
        · refine z_iload_n C 30 d_D_afterOneGoing_29 rfl rfl ?_
          refine z_iload_n C 31 d_D_afterOneGoing_30 rfl rfl ?_
          refine z_go0 C (z_S C kc_D_97 (c_D_without G l v3 v2) (st := []) rfl rfl (Nat.le_of_ble_eq_true rfl) ⟨⟨Nat.le_of_ble_eq_true rfl, Nat.le_of_ble_eq_true rfl⟩, Nat.le_of_ble_eq_true rfl, Nat.le_of_ble_eq_true rfl⟩ d_D_afterOneGoing_31) [0, 1, 2, 3, 4, 5, 6, 7, 8, 9, 10, 11, 12, 13, 14, 15, 16] [.int (F_D_without v3 v2)] 34 rfl rfl rfl rfl ?_
          refine z_istore_n C [(2, .int (F_D_without v3 v2)), (0, .ref (a 0)), (3, .int v3)] 35 d_D_afterOneGoing_34 rfl (by decide) rfl ?_
          refine z_iinc C (v3 + (-1)) [(3, .int (v3 + (-1))), (2, .int (F_D_without v3 v2)), (0, .ref (a 0))] 38 d_D_afterOneGoing_35 rfl (by decide) rfl rfl rfl ?_
          refine z_goto C 5 d_D_afterOneGoing_38 (by decide) ?_
          refine z_lvs [2, 1, 0] [(0, .ref (a 0)), (2, .int (F_D_without v3 v2)), (3, .int (v3 + (-1)))] rfl ?_
          exact ih S (F_D_without v3 v2) (v3 + (-1)) (zdecD c_6 hmu) (by rw [show L_D_afterOneGoing_5 (n + 1) S v2 v3 = (L_D_afterOneGoing_5 n S (F_D_without v3 v2) (v3 + (-1))) from by rw [L_D_afterOneGoing_5, if_neg c_6, if_neg c_14, if_neg c_26]] at hq; exact hq)
def F_D_afterOneGoing (S : SD) (x1 : Int32) : Int32 :=
  (L_D_afterOneGoing_5 ((Int32.toInt 20 + 1).toNat + 1) S x1 20)
set_option maxRecDepth 100000 in
set_option maxHeartbeats 4000000 in
theorem c_D_afterOneGoing (G : zG) (l : Launch) (a : Nat → Nat) (S : SD) (x1 : Int32)  : zM G l y_D_afterOneGoing b_D_afterOneGoing 4 (some .int) (zR 2 44) [.ref (a 0), .int x1] (wD G a S) (fun r1 w1 => r1 = some (.int (F_D_afterOneGoing S x1)) ∧ w1 = wD G a S) := by
  generalize hPost : (fun (r1 : Option Value) (w1 : va_W) => r1 = some (.int (F_D_afterOneGoing S x1)) ∧ w1 = wD G a S) = Post
  have hq : Post (some (.int (F_D_afterOneGoing S x1))) (wD G a S) := by rw [← hPost]; exact ⟨rfl, rfl⟩
  clear hPost
  refine zM_of (by decide) (Nat.le_of_ble_eq_true rfl) ?_
  intro p e s m args below meth c C hlk hr hin
  refine z_iload_n C 1 d_D_afterOneGoing_0 rfl rfl ?_
  refine z_istore_n C [(2, .int x1), (0, .ref (a 0)), (1, .int x1)] 2 d_D_afterOneGoing_1 rfl (by decide) rfl ?_
  refine z_bipush C 20 4 d_D_afterOneGoing_2 rfl (by decide) ?_
  refine z_istore_n C [(3, .int 20), (2, .int x1), (0, .ref (a 0)), (1, .int x1)] 5 d_D_afterOneGoing_4 rfl (by decide) rfl ?_
  refine z_lvs [2, 1, 0] [(0, .ref (a 0)), (2, .int x1), (3, .int 20)] rfl ?_
  exact l_D_afterOneGoing_5 G l a C hlk hr _ S x1 20 (Nat.lt_succ_self _) (by rw [show F_D_afterOneGoing S x1 = (L_D_afterOneGoing_5 ((Int32.toInt 20 + 1).toNat + 1) S x1 20) from by rw [F_D_afterOneGoing]] at hq; exact hq)

def L_D_smallerCase_14 : Nat → SD → Int32 → Int32 → Int32
  | 0, S, v2, v3 => 0
  | n + 1, S, v2, v3 =>
    if 21 < v3 then
      v2
    else
      if (F_D_afterOneGoing S v2) = v2 then
        v2
      else
        (L_D_smallerCase_14 n S (F_D_afterOneGoing S v2) (v3 + 1))
set_option maxRecDepth 100000 in
set_option maxHeartbeats 4000000 in
theorem l_D_smallerCase_14 (G : zG) (l : Launch) (a : Nat → Nat) {p : Program} {e : Env} {s : State} {m : MethodId} {args : Array Value} {below : List Frame} {meth : Method} {c : Code} {w0 : va_W} {Post : Option Value → va_W → Prop} (C : zC p s m args meth c b_D_smallerCase 5 N_D G (va_A w0 s.heap.size)) (hlk : meth.locks = false) (hr : meth.sig.returnType = some .int) :
    ∀ (n : Nat) (S : SD) (v2 : Int32) (v3 : Int32), (Int32.toInt 21 + 1 - Int32.toInt v3).toNat < n → Post (some (.int (L_D_smallerCase_14 n S v2 v3))) (wD G a S) → zV p l e (zR 3 67) s m args below meth c 5 G (va_A w0 s.heap.size) (MQ below (zQ G w0 s.heap.size Post) args s 0 0 (va_A w0 s.heap.size)) 0 0 (wD G a S) 14 [(0, .ref (a 0)), (2, .int v2), (3, .int v3)] [] := by
  intro n
  induction n with
  | zero => intro S v2 v3 h; exact absurd h (Nat.not_lt_zero _)
  | succ n ih =>
    intro S v2 v3 hmu hq
    refine z_iload_n C 15 d_D_smallerCase_14 rfl rfl ?_
    refine z_bipush C 21 17 d_D_smallerCase_15 rfl (by decide) ?_
    refine z_icmp_gt C 45 20 d_D_smallerCase_17 (by decide) rfl (fun c_17 => ?_) (fun c_17 => ?_)
    · refine z_iload_n C 46 d_D_smallerCase_45 rfl rfl ?_
      exact z_iret C hlk hr d_D_smallerCase_46 (by rw [show L_D_smallerCase_14 (n + 1) S v2 v3 = v2 from by rw [L_D_smallerCase_14, if_pos c_17]] at hq; exact hq)
    · refine z_aload_n C 21 d_D_smallerCase_20 rfl rfl ?_
      refine z_iload_n C 22 d_D_smallerCase_21 rfl rfl ?_
      refine z_goA C (z_V C kc_D_113 (c_D_afterOneGoing G l a S v2) (st := []) 0 2 rfl rfl rfl rfl (Nat.le_of_ble_eq_true rfl) ⟨⟨Nat.le_of_ble_eq_true rfl, Nat.le_of_ble_eq_true rfl⟩, Nat.le_of_ble_eq_true rfl, Nat.le_of_ble_eq_true rfl⟩ d_D_smallerCase_22) [.int (F_D_afterOneGoing S v2)] 25 rfl rfl ?_
      refine z_istore C [(4, .int (F_D_afterOneGoing S v2)), (0, .ref (a 0)), (2, .int v2), (3, .int v3)] 27 d_D_smallerCase_25 rfl (by decide) rfl ?_
      refine z_iload C 29 d_D_smallerCase_27 rfl rfl ?_
      refine z_iload_n C 30 d_D_smallerCase_29 rfl rfl ?_
      refine z_icmp_ne C 36 33 d_D_smallerCase_30 (by decide) rfl (fun c_30 => ?_) (fun c_30 => ?_)
      · refine z_iload C 38 d_D_smallerCase_36 rfl rfl ?_
        refine z_istore_n C [(2, .int (F_D_afterOneGoing S v2)), (4, .int (F_D_afterOneGoing S v2)), (0, .ref (a 0)), (3, .int v3)] 39 d_D_smallerCase_38 rfl (by decide) rfl ?_
        refine z_iinc C (v3 + 1) [(3, .int (v3 + 1)), (2, .int (F_D_afterOneGoing S v2)), (4, .int (F_D_afterOneGoing S v2)), (0, .ref (a 0))] 42 d_D_smallerCase_39 rfl (by decide) rfl rfl rfl ?_
        refine z_goto C 14 d_D_smallerCase_42 (by decide) ?_
        refine z_lvs [3, 1, 0] [(0, .ref (a 0)), (2, .int (F_D_afterOneGoing S v2)), (3, .int (v3 + 1))] rfl ?_
        exact ih S (F_D_afterOneGoing S v2) (v3 + 1) (zdecL (by decide) c_17 hmu) (by rw [show L_D_smallerCase_14 (n + 1) S v2 v3 = (L_D_smallerCase_14 n S (F_D_afterOneGoing S v2) (v3 + 1)) from by rw [L_D_smallerCase_14, if_neg c_17, if_neg c_30]] at hq; exact hq)
      · refine z_goto C 45 d_D_smallerCase_33 (by decide) ?_
        refine z_iload_n C 46 d_D_smallerCase_45 rfl rfl ?_
        exact z_iret C hlk hr d_D_smallerCase_46 (by rw [show L_D_smallerCase_14 (n + 1) S v2 v3 = v2 from by rw [L_D_smallerCase_14, if_neg c_17, if_pos c_30]] at hq; exact hq)
def F_D_smallerCase (S : SD) (x1 : Int32) : Int32 :=
  if (F_D_staysFor S x1) = 0 then
    x1
  else
    (L_D_smallerCase_14 ((Int32.toInt 21 + 1 - Int32.toInt 0).toNat + 1) S x1 0)
set_option maxRecDepth 100000 in
set_option maxHeartbeats 4000000 in
theorem c_D_smallerCase (G : zG) (l : Launch) (a : Nat → Nat) (S : SD) (x1 : Int32)  : zM G l y_D_smallerCase b_D_smallerCase 5 (some .int) (zR 3 67) [.ref (a 0), .int x1] (wD G a S) (fun r1 w1 => r1 = some (.int (F_D_smallerCase S x1)) ∧ w1 = wD G a S) := by
  generalize hPost : (fun (r1 : Option Value) (w1 : va_W) => r1 = some (.int (F_D_smallerCase S x1)) ∧ w1 = wD G a S) = Post
  have hq : Post (some (.int (F_D_smallerCase S x1))) (wD G a S) := by rw [← hPost]; exact ⟨rfl, rfl⟩
  clear hPost
  refine zM_of (by decide) (Nat.le_of_ble_eq_true rfl) ?_
  intro p e s m args below meth c C hlk hr hin
  refine z_aload_n C 1 d_D_smallerCase_0 rfl rfl ?_
  refine z_iload_n C 2 d_D_smallerCase_1 rfl rfl ?_
  refine z_goA C (z_V C kc_D_94 (c_D_staysFor G l a S x1) (st := []) 0 2 rfl rfl rfl rfl (Nat.le_of_ble_eq_true rfl) ⟨⟨Nat.le_of_ble_eq_true rfl, Nat.le_of_ble_eq_true rfl⟩, Nat.le_of_ble_eq_true rfl, Nat.le_of_ble_eq_true rfl⟩ d_D_smallerCase_2) [.int (F_D_staysFor S x1)] 5 rfl rfl ?_
  refine z_if_ne C 10 8 d_D_smallerCase_5 (by decide) rfl (fun c_5 => ?_) (fun c_5 => ?_)
  · refine z_iload_n C 11 d_D_smallerCase_10 rfl rfl ?_
    refine z_istore_n C [(2, .int x1), (0, .ref (a 0)), (1, .int x1)] 12 d_D_smallerCase_11 rfl (by decide) rfl ?_
    refine z_iconst C 0 13 d_D_smallerCase_12 rfl (by decide) ?_
    refine z_istore_n C [(3, .int 0), (2, .int x1), (0, .ref (a 0)), (1, .int x1)] 14 d_D_smallerCase_13 rfl (by decide) rfl ?_
    refine z_lvs [2, 1, 0] [(0, .ref (a 0)), (2, .int x1), (3, .int 0)] rfl ?_
    exact l_D_smallerCase_14 G l a C hlk hr _ S x1 0 (Nat.lt_succ_self _) (by rw [show F_D_smallerCase S x1 = (L_D_smallerCase_14 ((Int32.toInt 21 + 1 - Int32.toInt 0).toNat + 1) S x1 0) from by rw [F_D_smallerCase, if_neg c_5]] at hq; exact hq)
  · refine z_iload_n C 9 d_D_smallerCase_8 rfl rfl ?_
    exact z_iret C hlk hr d_D_smallerCase_9 (by rw [show F_D_smallerCase S x1 = x1 from by rw [F_D_smallerCase, if_pos c_5]] at hq; exact hq)

def F_J_bitCount (x0 : Int32) : Int32 :=
  ((((((((x0 - (((Int32.toUInt32 x0 >>> (Int32.toUInt32 1 &&& Int32.toUInt32 31)).toInt32) &&& 1431655765)) &&& 858993459) + (((Int32.toUInt32 (x0 - (((Int32.toUInt32 x0 >>> (Int32.toUInt32 1 &&& Int32.toUInt32 31)).toInt32) &&& 1431655765)) >>> (Int32.toUInt32 2 &&& Int32.toUInt32 31)).toInt32) &&& 858993459)) + ((Int32.toUInt32 (((x0 - (((Int32.toUInt32 x0 >>> (Int32.toUInt32 1 &&& Int32.toUInt32 31)).toInt32) &&& 1431655765)) &&& 858993459) + (((Int32.toUInt32 (x0 - (((Int32.toUInt32 x0 >>> (Int32.toUInt32 1 &&& Int32.toUInt32 31)).toInt32) &&& 1431655765)) >>> (Int32.toUInt32 2 &&& Int32.toUInt32 31)).toInt32) &&& 858993459)) >>> (Int32.toUInt32 4 &&& Int32.toUInt32 31)).toInt32)) &&& 252645135) + ((Int32.toUInt32 (((((x0 - (((Int32.toUInt32 x0 >>> (Int32.toUInt32 1 &&& Int32.toUInt32 31)).toInt32) &&& 1431655765)) &&& 858993459) + (((Int32.toUInt32 (x0 - (((Int32.toUInt32 x0 >>> (Int32.toUInt32 1 &&& Int32.toUInt32 31)).toInt32) &&& 1431655765)) >>> (Int32.toUInt32 2 &&& Int32.toUInt32 31)).toInt32) &&& 858993459)) + ((Int32.toUInt32 (((x0 - (((Int32.toUInt32 x0 >>> (Int32.toUInt32 1 &&& Int32.toUInt32 31)).toInt32) &&& 1431655765)) &&& 858993459) + (((Int32.toUInt32 (x0 - (((Int32.toUInt32 x0 >>> (Int32.toUInt32 1 &&& Int32.toUInt32 31)).toInt32) &&& 1431655765)) >>> (Int32.toUInt32 2 &&& Int32.toUInt32 31)).toInt32) &&& 858993459)) >>> (Int32.toUInt32 4 &&& Int32.toUInt32 31)).toInt32)) &&& 252645135) >>> (Int32.toUInt32 8 &&& Int32.toUInt32 31)).toInt32)) + ((Int32.toUInt32 ((((((x0 - (((Int32.toUInt32 x0 >>> (Int32.toUInt32 1 &&& Int32.toUInt32 31)).toInt32) &&& 1431655765)) &&& 858993459) + (((Int32.toUInt32 (x0 - (((Int32.toUInt32 x0 >>> (Int32.toUInt32 1 &&& Int32.toUInt32 31)).toInt32) &&& 1431655765)) >>> (Int32.toUInt32 2 &&& Int32.toUInt32 31)).toInt32) &&& 858993459)) + ((Int32.toUInt32 (((x0 - (((Int32.toUInt32 x0 >>> (Int32.toUInt32 1 &&& Int32.toUInt32 31)).toInt32) &&& 1431655765)) &&& 858993459) + (((Int32.toUInt32 (x0 - (((Int32.toUInt32 x0 >>> (Int32.toUInt32 1 &&& Int32.toUInt32 31)).toInt32) &&& 1431655765)) >>> (Int32.toUInt32 2 &&& Int32.toUInt32 31)).toInt32) &&& 858993459)) >>> (Int32.toUInt32 4 &&& Int32.toUInt32 31)).toInt32)) &&& 252645135) + ((Int32.toUInt32 (((((x0 - (((Int32.toUInt32 x0 >>> (Int32.toUInt32 1 &&& Int32.toUInt32 31)).toInt32) &&& 1431655765)) &&& 858993459) + (((Int32.toUInt32 (x0 - (((Int32.toUInt32 x0 >>> (Int32.toUInt32 1 &&& Int32.toUInt32 31)).toInt32) &&& 1431655765)) >>> (Int32.toUInt32 2 &&& Int32.toUInt32 31)).toInt32) &&& 858993459)) + ((Int32.toUInt32 (((x0 - (((Int32.toUInt32 x0 >>> (Int32.toUInt32 1 &&& Int32.toUInt32 31)).toInt32) &&& 1431655765)) &&& 858993459) + (((Int32.toUInt32 (x0 - (((Int32.toUInt32 x0 >>> (Int32.toUInt32 1 &&& Int32.toUInt32 31)).toInt32) &&& 1431655765)) >>> (Int32.toUInt32 2 &&& Int32.toUInt32 31)).toInt32) &&& 858993459)) >>> (Int32.toUInt32 4 &&& Int32.toUInt32 31)).toInt32)) &&& 252645135) >>> (Int32.toUInt32 8 &&& Int32.toUInt32 31)).toInt32)) >>> (Int32.toUInt32 16 &&& Int32.toUInt32 31)).toInt32)) &&& 63)
set_option maxRecDepth 100000 in
set_option maxHeartbeats 4000000 in
theorem c_J_bitCount (G : zG) (l : Launch) (x0 : Int32)  : zM G l y_J_bitCount b_J_bitCount 1 (some .int) (zR 0 0) [.int x0] ([]) (fun r1 w1 => r1 = some (.int (F_J_bitCount x0)) ∧ w1 = []) := by
  generalize hPost : (fun (r1 : Option Value) (w1 : va_W) => r1 = some (.int (F_J_bitCount x0)) ∧ w1 = []) = Post
  have hq : Post (some (.int (F_J_bitCount x0))) ([]) := by rw [← hPost]; exact ⟨rfl, rfl⟩
  clear hPost
  refine zM_of (by decide) (Nat.le_of_ble_eq_true rfl) ?_
  intro p e s m args below meth c C hlk hr hin
  refine z_iload_n C 1 d_J_bitCount_0 rfl rfl ?_
  refine z_iload_n C 2 d_J_bitCount_1 rfl rfl ?_
  refine z_iconst C 1 3 d_J_bitCount_2 rfl (by decide) ?_
  refine z_iushr C 4 d_J_bitCount_3 rfl ?_
  refine z_ldcw C 1431655765 7 d_J_bitCount_4 rfl kk_J_265 ?_
  refine z_iand C 8 d_J_bitCount_7 rfl ?_
  refine z_isub C 9 d_J_bitCount_8 rfl ?_
  refine z_istore_n C [(0, .int (x0 - (((Int32.toUInt32 x0 >>> (Int32.toUInt32 1 &&& Int32.toUInt32 31)).toInt32) &&& 1431655765)))] 10 d_J_bitCount_9 rfl (by decide) rfl ?_
  refine z_iload_n C 11 d_J_bitCount_10 rfl rfl ?_
  refine z_ldcw C 858993459 14 d_J_bitCount_11 rfl kk_J_266 ?_
  refine z_iand C 15 d_J_bitCount_14 rfl ?_
  refine z_iload_n C 16 d_J_bitCount_15 rfl rfl ?_
  refine z_iconst C 2 17 d_J_bitCount_16 rfl (by decide) ?_
  refine z_iushr C 18 d_J_bitCount_17 rfl ?_
  refine z_ldcw C 858993459 21 d_J_bitCount_18 rfl kk_J_266 ?_
  refine z_iand C 22 d_J_bitCount_21 rfl ?_
  refine z_iadd C 23 d_J_bitCount_22 rfl ?_
  refine z_istore_n C [(0, .int (((x0 - (((Int32.toUInt32 x0 >>> (Int32.toUInt32 1 &&& Int32.toUInt32 31)).toInt32) &&& 1431655765)) &&& 858993459) + (((Int32.toUInt32 (x0 - (((Int32.toUInt32 x0 >>> (Int32.toUInt32 1 &&& Int32.toUInt32 31)).toInt32) &&& 1431655765)) >>> (Int32.toUInt32 2 &&& Int32.toUInt32 31)).toInt32) &&& 858993459)))] 24 d_J_bitCount_23 rfl (by decide) rfl ?_
  refine z_iload_n C 25 d_J_bitCount_24 rfl rfl ?_
  refine z_iload_n C 26 d_J_bitCount_25 rfl rfl ?_
  refine z_iconst C 4 27 d_J_bitCount_26 rfl (by decide) ?_
  refine z_iushr C 28 d_J_bitCount_27 rfl ?_
  refine z_iadd C 29 d_J_bitCount_28 rfl ?_
  refine z_ldcw C 252645135 32 d_J_bitCount_29 rfl kk_J_267 ?_
  refine z_iand C 33 d_J_bitCount_32 rfl ?_
  refine z_istore_n C [(0, .int (((((x0 - (((Int32.toUInt32 x0 >>> (Int32.toUInt32 1 &&& Int32.toUInt32 31)).toInt32) &&& 1431655765)) &&& 858993459) + (((Int32.toUInt32 (x0 - (((Int32.toUInt32 x0 >>> (Int32.toUInt32 1 &&& Int32.toUInt32 31)).toInt32) &&& 1431655765)) >>> (Int32.toUInt32 2 &&& Int32.toUInt32 31)).toInt32) &&& 858993459)) + ((Int32.toUInt32 (((x0 - (((Int32.toUInt32 x0 >>> (Int32.toUInt32 1 &&& Int32.toUInt32 31)).toInt32) &&& 1431655765)) &&& 858993459) + (((Int32.toUInt32 (x0 - (((Int32.toUInt32 x0 >>> (Int32.toUInt32 1 &&& Int32.toUInt32 31)).toInt32) &&& 1431655765)) >>> (Int32.toUInt32 2 &&& Int32.toUInt32 31)).toInt32) &&& 858993459)) >>> (Int32.toUInt32 4 &&& Int32.toUInt32 31)).toInt32)) &&& 252645135))] 34 d_J_bitCount_33 rfl (by decide) rfl ?_
  refine z_iload_n C 35 d_J_bitCount_34 rfl rfl ?_
  refine z_iload_n C 36 d_J_bitCount_35 rfl rfl ?_
  refine z_bipush C 8 38 d_J_bitCount_36 rfl (by decide) ?_
  refine z_iushr C 39 d_J_bitCount_38 rfl ?_
  refine z_iadd C 40 d_J_bitCount_39 rfl ?_
  refine z_istore_n C [(0, .int ((((((x0 - (((Int32.toUInt32 x0 >>> (Int32.toUInt32 1 &&& Int32.toUInt32 31)).toInt32) &&& 1431655765)) &&& 858993459) + (((Int32.toUInt32 (x0 - (((Int32.toUInt32 x0 >>> (Int32.toUInt32 1 &&& Int32.toUInt32 31)).toInt32) &&& 1431655765)) >>> (Int32.toUInt32 2 &&& Int32.toUInt32 31)).toInt32) &&& 858993459)) + ((Int32.toUInt32 (((x0 - (((Int32.toUInt32 x0 >>> (Int32.toUInt32 1 &&& Int32.toUInt32 31)).toInt32) &&& 1431655765)) &&& 858993459) + (((Int32.toUInt32 (x0 - (((Int32.toUInt32 x0 >>> (Int32.toUInt32 1 &&& Int32.toUInt32 31)).toInt32) &&& 1431655765)) >>> (Int32.toUInt32 2 &&& Int32.toUInt32 31)).toInt32) &&& 858993459)) >>> (Int32.toUInt32 4 &&& Int32.toUInt32 31)).toInt32)) &&& 252645135) + ((Int32.toUInt32 (((((x0 - (((Int32.toUInt32 x0 >>> (Int32.toUInt32 1 &&& Int32.toUInt32 31)).toInt32) &&& 1431655765)) &&& 858993459) + (((Int32.toUInt32 (x0 - (((Int32.toUInt32 x0 >>> (Int32.toUInt32 1 &&& Int32.toUInt32 31)).toInt32) &&& 1431655765)) >>> (Int32.toUInt32 2 &&& Int32.toUInt32 31)).toInt32) &&& 858993459)) + ((Int32.toUInt32 (((x0 - (((Int32.toUInt32 x0 >>> (Int32.toUInt32 1 &&& Int32.toUInt32 31)).toInt32) &&& 1431655765)) &&& 858993459) + (((Int32.toUInt32 (x0 - (((Int32.toUInt32 x0 >>> (Int32.toUInt32 1 &&& Int32.toUInt32 31)).toInt32) &&& 1431655765)) >>> (Int32.toUInt32 2 &&& Int32.toUInt32 31)).toInt32) &&& 858993459)) >>> (Int32.toUInt32 4 &&& Int32.toUInt32 31)).toInt32)) &&& 252645135) >>> (Int32.toUInt32 8 &&& Int32.toUInt32 31)).toInt32)))] 41 d_J_bitCount_40 rfl (by decide) rfl ?_
  refine z_iload_n C 42 d_J_bitCount_41 rfl rfl ?_
  refine z_iload_n C 43 d_J_bitCount_42 rfl rfl ?_
  refine z_bipush C 16 45 d_J_bitCount_43 rfl (by decide) ?_
  refine z_iushr C 46 d_J_bitCount_45 rfl ?_
  refine z_iadd C 47 d_J_bitCount_46 rfl ?_
  refine z_istore_n C [(0, .int (((((((x0 - (((Int32.toUInt32 x0 >>> (Int32.toUInt32 1 &&& Int32.toUInt32 31)).toInt32) &&& 1431655765)) &&& 858993459) + (((Int32.toUInt32 (x0 - (((Int32.toUInt32 x0 >>> (Int32.toUInt32 1 &&& Int32.toUInt32 31)).toInt32) &&& 1431655765)) >>> (Int32.toUInt32 2 &&& Int32.toUInt32 31)).toInt32) &&& 858993459)) + ((Int32.toUInt32 (((x0 - (((Int32.toUInt32 x0 >>> (Int32.toUInt32 1 &&& Int32.toUInt32 31)).toInt32) &&& 1431655765)) &&& 858993459) + (((Int32.toUInt32 (x0 - (((Int32.toUInt32 x0 >>> (Int32.toUInt32 1 &&& Int32.toUInt32 31)).toInt32) &&& 1431655765)) >>> (Int32.toUInt32 2 &&& Int32.toUInt32 31)).toInt32) &&& 858993459)) >>> (Int32.toUInt32 4 &&& Int32.toUInt32 31)).toInt32)) &&& 252645135) + ((Int32.toUInt32 (((((x0 - (((Int32.toUInt32 x0 >>> (Int32.toUInt32 1 &&& Int32.toUInt32 31)).toInt32) &&& 1431655765)) &&& 858993459) + (((Int32.toUInt32 (x0 - (((Int32.toUInt32 x0 >>> (Int32.toUInt32 1 &&& Int32.toUInt32 31)).toInt32) &&& 1431655765)) >>> (Int32.toUInt32 2 &&& Int32.toUInt32 31)).toInt32) &&& 858993459)) + ((Int32.toUInt32 (((x0 - (((Int32.toUInt32 x0 >>> (Int32.toUInt32 1 &&& Int32.toUInt32 31)).toInt32) &&& 1431655765)) &&& 858993459) + (((Int32.toUInt32 (x0 - (((Int32.toUInt32 x0 >>> (Int32.toUInt32 1 &&& Int32.toUInt32 31)).toInt32) &&& 1431655765)) >>> (Int32.toUInt32 2 &&& Int32.toUInt32 31)).toInt32) &&& 858993459)) >>> (Int32.toUInt32 4 &&& Int32.toUInt32 31)).toInt32)) &&& 252645135) >>> (Int32.toUInt32 8 &&& Int32.toUInt32 31)).toInt32)) + ((Int32.toUInt32 ((((((x0 - (((Int32.toUInt32 x0 >>> (Int32.toUInt32 1 &&& Int32.toUInt32 31)).toInt32) &&& 1431655765)) &&& 858993459) + (((Int32.toUInt32 (x0 - (((Int32.toUInt32 x0 >>> (Int32.toUInt32 1 &&& Int32.toUInt32 31)).toInt32) &&& 1431655765)) >>> (Int32.toUInt32 2 &&& Int32.toUInt32 31)).toInt32) &&& 858993459)) + ((Int32.toUInt32 (((x0 - (((Int32.toUInt32 x0 >>> (Int32.toUInt32 1 &&& Int32.toUInt32 31)).toInt32) &&& 1431655765)) &&& 858993459) + (((Int32.toUInt32 (x0 - (((Int32.toUInt32 x0 >>> (Int32.toUInt32 1 &&& Int32.toUInt32 31)).toInt32) &&& 1431655765)) >>> (Int32.toUInt32 2 &&& Int32.toUInt32 31)).toInt32) &&& 858993459)) >>> (Int32.toUInt32 4 &&& Int32.toUInt32 31)).toInt32)) &&& 252645135) + ((Int32.toUInt32 (((((x0 - (((Int32.toUInt32 x0 >>> (Int32.toUInt32 1 &&& Int32.toUInt32 31)).toInt32) &&& 1431655765)) &&& 858993459) + (((Int32.toUInt32 (x0 - (((Int32.toUInt32 x0 >>> (Int32.toUInt32 1 &&& Int32.toUInt32 31)).toInt32) &&& 1431655765)) >>> (Int32.toUInt32 2 &&& Int32.toUInt32 31)).toInt32) &&& 858993459)) + ((Int32.toUInt32 (((x0 - (((Int32.toUInt32 x0 >>> (Int32.toUInt32 1 &&& Int32.toUInt32 31)).toInt32) &&& 1431655765)) &&& 858993459) + (((Int32.toUInt32 (x0 - (((Int32.toUInt32 x0 >>> (Int32.toUInt32 1 &&& Int32.toUInt32 31)).toInt32) &&& 1431655765)) >>> (Int32.toUInt32 2 &&& Int32.toUInt32 31)).toInt32) &&& 858993459)) >>> (Int32.toUInt32 4 &&& Int32.toUInt32 31)).toInt32)) &&& 252645135) >>> (Int32.toUInt32 8 &&& Int32.toUInt32 31)).toInt32)) >>> (Int32.toUInt32 16 &&& Int32.toUInt32 31)).toInt32)))] 48 d_J_bitCount_47 rfl (by decide) rfl ?_
  refine z_iload_n C 49 d_J_bitCount_48 rfl rfl ?_
  refine z_bipush C 63 51 d_J_bitCount_49 rfl (by decide) ?_
  refine z_iand C 52 d_J_bitCount_51 rfl ?_
  exact z_iret C hlk hr d_J_bitCount_52 (by rw [show F_J_bitCount x0 = ((((((((x0 - (((Int32.toUInt32 x0 >>> (Int32.toUInt32 1 &&& Int32.toUInt32 31)).toInt32) &&& 1431655765)) &&& 858993459) + (((Int32.toUInt32 (x0 - (((Int32.toUInt32 x0 >>> (Int32.toUInt32 1 &&& Int32.toUInt32 31)).toInt32) &&& 1431655765)) >>> (Int32.toUInt32 2 &&& Int32.toUInt32 31)).toInt32) &&& 858993459)) + ((Int32.toUInt32 (((x0 - (((Int32.toUInt32 x0 >>> (Int32.toUInt32 1 &&& Int32.toUInt32 31)).toInt32) &&& 1431655765)) &&& 858993459) + (((Int32.toUInt32 (x0 - (((Int32.toUInt32 x0 >>> (Int32.toUInt32 1 &&& Int32.toUInt32 31)).toInt32) &&& 1431655765)) >>> (Int32.toUInt32 2 &&& Int32.toUInt32 31)).toInt32) &&& 858993459)) >>> (Int32.toUInt32 4 &&& Int32.toUInt32 31)).toInt32)) &&& 252645135) + ((Int32.toUInt32 (((((x0 - (((Int32.toUInt32 x0 >>> (Int32.toUInt32 1 &&& Int32.toUInt32 31)).toInt32) &&& 1431655765)) &&& 858993459) + (((Int32.toUInt32 (x0 - (((Int32.toUInt32 x0 >>> (Int32.toUInt32 1 &&& Int32.toUInt32 31)).toInt32) &&& 1431655765)) >>> (Int32.toUInt32 2 &&& Int32.toUInt32 31)).toInt32) &&& 858993459)) + ((Int32.toUInt32 (((x0 - (((Int32.toUInt32 x0 >>> (Int32.toUInt32 1 &&& Int32.toUInt32 31)).toInt32) &&& 1431655765)) &&& 858993459) + (((Int32.toUInt32 (x0 - (((Int32.toUInt32 x0 >>> (Int32.toUInt32 1 &&& Int32.toUInt32 31)).toInt32) &&& 1431655765)) >>> (Int32.toUInt32 2 &&& Int32.toUInt32 31)).toInt32) &&& 858993459)) >>> (Int32.toUInt32 4 &&& Int32.toUInt32 31)).toInt32)) &&& 252645135) >>> (Int32.toUInt32 8 &&& Int32.toUInt32 31)).toInt32)) + ((Int32.toUInt32 ((((((x0 - (((Int32.toUInt32 x0 >>> (Int32.toUInt32 1 &&& Int32.toUInt32 31)).toInt32) &&& 1431655765)) &&& 858993459) + (((Int32.toUInt32 (x0 - (((Int32.toUInt32 x0 >>> (Int32.toUInt32 1 &&& Int32.toUInt32 31)).toInt32) &&& 1431655765)) >>> (Int32.toUInt32 2 &&& Int32.toUInt32 31)).toInt32) &&& 858993459)) + ((Int32.toUInt32 (((x0 - (((Int32.toUInt32 x0 >>> (Int32.toUInt32 1 &&& Int32.toUInt32 31)).toInt32) &&& 1431655765)) &&& 858993459) + (((Int32.toUInt32 (x0 - (((Int32.toUInt32 x0 >>> (Int32.toUInt32 1 &&& Int32.toUInt32 31)).toInt32) &&& 1431655765)) >>> (Int32.toUInt32 2 &&& Int32.toUInt32 31)).toInt32) &&& 858993459)) >>> (Int32.toUInt32 4 &&& Int32.toUInt32 31)).toInt32)) &&& 252645135) + ((Int32.toUInt32 (((((x0 - (((Int32.toUInt32 x0 >>> (Int32.toUInt32 1 &&& Int32.toUInt32 31)).toInt32) &&& 1431655765)) &&& 858993459) + (((Int32.toUInt32 (x0 - (((Int32.toUInt32 x0 >>> (Int32.toUInt32 1 &&& Int32.toUInt32 31)).toInt32) &&& 1431655765)) >>> (Int32.toUInt32 2 &&& Int32.toUInt32 31)).toInt32) &&& 858993459)) + ((Int32.toUInt32 (((x0 - (((Int32.toUInt32 x0 >>> (Int32.toUInt32 1 &&& Int32.toUInt32 31)).toInt32) &&& 1431655765)) &&& 858993459) + (((Int32.toUInt32 (x0 - (((Int32.toUInt32 x0 >>> (Int32.toUInt32 1 &&& Int32.toUInt32 31)).toInt32) &&& 1431655765)) >>> (Int32.toUInt32 2 &&& Int32.toUInt32 31)).toInt32) &&& 858993459)) >>> (Int32.toUInt32 4 &&& Int32.toUInt32 31)).toInt32)) &&& 252645135) >>> (Int32.toUInt32 8 &&& Int32.toUInt32 31)).toInt32)) >>> (Int32.toUInt32 16 &&& Int32.toUInt32 31)).toInt32)) &&& 63) from by rw [F_J_bitCount]] at hq; exact hq)

def F_D_shorter (S : SD)  : Int32 × SD :=
  ((F_J_bitCount (F_D_smallerCase S (F_K_allParts (sD_drawn S)))), (uD_leftParts S (F_D_smallerCase S (F_K_allParts (sD_drawn S)))))
set_option maxRecDepth 100000 in
set_option maxHeartbeats 4000000 in
theorem c_D_shorter (G : zG) (l : Launch) (a : Nat → Nat) (S : SD)   : zM G l y_D_shorter b_D_shorter 1 (some .int) (zR 4 91) [.ref (a 0)] (wD G a S) (fun r1 w1 => r1 = some (.int (F_D_shorter S).1) ∧ w1 = wD G a (F_D_shorter S).2) := by
  generalize hPost : (fun (r1 : Option Value) (w1 : va_W) => r1 = some (.int (F_D_shorter S).1) ∧ w1 = wD G a (F_D_shorter S).2) = Post
  have hq : Post (some (.int (F_D_shorter S).1)) (wD G a (F_D_shorter S).2) := by rw [← hPost]; exact ⟨rfl, rfl⟩
  clear hPost
  refine zM_of (by decide) (Nat.le_of_ble_eq_true rfl) ?_
  intro p e s m args below meth c C hlk hr hin
  refine z_aload_n C 1 d_D_shorter_0 rfl rfl ?_
  refine z_aload_n C 2 d_D_shorter_1 rfl rfl ?_
  refine z_aload_n C 3 d_D_shorter_2 rfl rfl ?_
  refine z_get C kf_D_12 0 (v := .ref (a 1)) 6 d_D_shorter_3 rfl rfl rfl ?_
  refine z_go_drawn_ro C (z_V C kc_D_51 (c_K_allParts G l (fun i => a (i + 1)) (sD_drawn S)) (st := [.ref (a 0), .ref (a 0)]) 0 0 rfl rfl rfl rfl (Nat.le_of_ble_eq_true rfl) ⟨⟨Nat.le_of_ble_eq_true rfl, Nat.le_of_ble_eq_true rfl⟩, Nat.le_of_ble_eq_true rfl, Nat.le_of_ble_eq_true rfl⟩ d_D_shorter_6) [.int (F_K_allParts (sD_drawn S)), .ref (a 0), .ref (a 0)] 9 rfl rfl ?_
  refine z_goA C (z_V C kc_D_83 (c_D_smallerCase G l a S (F_K_allParts (sD_drawn S))) (st := [.ref (a 0)]) 0 2 rfl rfl rfl rfl (Nat.le_of_ble_eq_true rfl) ⟨⟨Nat.le_of_ble_eq_true rfl, Nat.le_of_ble_eq_true rfl⟩, Nat.le_of_ble_eq_true rfl, Nat.le_of_ble_eq_true rfl⟩ d_D_shorter_9) [.int (F_D_smallerCase S (F_K_allParts (sD_drawn S))), .ref (a 0)] 12 rfl rfl ?_
  refine z_put C kf_D_32 kp_D 0 (wD G a (uD_leftParts S (F_D_smallerCase S (F_K_allParts (sD_drawn S))))) 15 d_D_shorter_12 rfl rfl rfl (znr_i _) (zft_i _) (Nat.le_of_ble_eq_true rfl) (wD_put_leftParts G a S (F_D_smallerCase S (F_K_allParts (sD_drawn S)))) ?_
  refine z_aload_n C 16 d_D_shorter_15 rfl rfl ?_
  refine z_get C kf_D_32 0 (v := .int (F_D_smallerCase S (F_K_allParts (sD_drawn S)))) 19 d_D_shorter_16 rfl rfl rfl ?_
  refine z_go0 C (z_S C kc_D_86 (c_J_bitCount G l (F_D_smallerCase S (F_K_allParts (sD_drawn S)))) (st := []) rfl rfl (Nat.le_of_ble_eq_true rfl) ⟨⟨Nat.le_of_ble_eq_true rfl, Nat.le_of_ble_eq_true rfl⟩, Nat.le_of_ble_eq_true rfl, Nat.le_of_ble_eq_true rfl⟩ d_D_shorter_19) [0, 1, 2, 3, 4, 5, 6, 7, 8, 9, 10, 11, 12, 13, 14, 15, 16] [.int (F_J_bitCount (F_D_smallerCase S (F_K_allParts (sD_drawn S))))] 22 rfl rfl rfl rfl ?_
  exact z_iret C hlk hr d_D_shorter_22 (by rw [show F_D_shorter S = ((F_J_bitCount (F_D_smallerCase S (F_K_allParts (sD_drawn S)))), (uD_leftParts S (F_D_smallerCase S (F_K_allParts (sD_drawn S))))) from by rw [F_D_shorter]] at hq; exact hq)

def L_D_sameSigns_2 : Nat → SD → Int32 → Int32
  | 0, S, v1 => 0
  | n + 1, S, v1 =>
    if 147 ≤ v1 then
      1
    else
      if (F_K_sign (sD_ours S) v1) = (F_K_sign (sD_theirs S) v1) then
        (L_D_sameSigns_2 n S (v1 + 1))
      else
        0
set_option maxRecDepth 100000 in
set_option maxHeartbeats 4000000 in
theorem l_D_sameSigns_2 (G : zG) (l : Launch) (a : Nat → Nat) {p : Program} {e : Env} {s : State} {m : MethodId} {args : Array Value} {below : List Frame} {meth : Method} {c : Code} {w0 : va_W} {Post : Option Value → va_W → Prop} (C : zC p s m args meth c b_D_sameSigns 2 N_D G (va_A w0 s.heap.size)) (hlk : meth.locks = false) (hr : meth.sig.returnType = some .boolean) :
    ∀ (n : Nat) (S : SD) (v1 : Int32), (Int32.toInt 147 - Int32.toInt v1).toNat < n → Post (some (.int (L_D_sameSigns_2 n S v1))) (wD G a S) → zV p l e (zR 1 21) s m args below meth c 2 G (va_A w0 s.heap.size) (MQ below (zQ G w0 s.heap.size Post) args s 0 0 (va_A w0 s.heap.size)) 0 0 (wD G a S) 2 [(0, .ref (a 0)), (1, .int v1)] [] := by
  intro n
  induction n with
  | zero => intro S v1 h; exact absurd h (Nat.not_lt_zero _)
  | succ n ih =>
    intro S v1 hmu hq
    refine z_iload_n C 3 d_D_sameSigns_2 rfl rfl ?_
    refine z_sipush C 147 6 d_D_sameSigns_3 rfl (by decide) ?_
    refine z_icmp_ge C 36 9 d_D_sameSigns_6 (by decide) rfl (fun c_6 => ?_) (fun c_6 => ?_)
    · refine z_iconst C 1 37 d_D_sameSigns_36 rfl (by decide) ?_
      exact z_zret C hlk rfl hr d_D_sameSigns_37 (by rw [show L_D_sameSigns_2 (n + 1) S v1 = 1 from by rw [L_D_sameSigns_2, if_pos c_6]] at hq; exact hq)
    · refine z_aload_n C 10 d_D_sameSigns_9 rfl rfl ?_
      refine z_get C kf_D_16 0 (v := .ref (a 5)) 13 d_D_sameSigns_10 rfl rfl rfl ?_
      refine z_iload_n C 14 d_D_sameSigns_13 rfl rfl ?_
      refine z_go_ours_ro C (z_V C kc_D_62 (c_K_sign G l (fun i => a (i + 5)) (sD_ours S) v1) (st := []) 0 0 rfl rfl rfl rfl (Nat.le_of_ble_eq_true rfl) ⟨⟨Nat.le_of_ble_eq_true rfl, Nat.le_of_ble_eq_true rfl⟩, Nat.le_of_ble_eq_true rfl, Nat.le_of_ble_eq_true rfl⟩ d_D_sameSigns_14) [.int (F_K_sign (sD_ours S) v1)] 17 rfl rfl ?_
      refine z_aload_n C 18 d_D_sameSigns_17 rfl rfl ?_
      refine z_get C kf_D_19 0 (v := .ref (a 9)) 21 d_D_sameSigns_18 rfl rfl rfl ?_
      refine z_iload_n C 22 d_D_sameSigns_21 rfl rfl ?_
      refine z_go_theirs_ro C (z_V C kc_D_62 (c_K_sign G l (fun i => a (i + 9)) (sD_theirs S) v1) (st := [.int (F_K_sign (sD_ours S) v1)]) 0 0 rfl rfl rfl rfl (Nat.le_of_ble_eq_true rfl) ⟨⟨Nat.le_of_ble_eq_true rfl, Nat.le_of_ble_eq_true rfl⟩, Nat.le_of_ble_eq_true rfl, Nat.le_of_ble_eq_true rfl⟩ d_D_sameSigns_22) [.int (F_K_sign (sD_theirs S) v1), .int (F_K_sign (sD_ours S) v1)] 25 rfl rfl ?_
      refine z_icmp_eq C 30 28 d_D_sameSigns_25 (by decide) rfl (fun c_25 => ?_) (fun c_25 => ?_)
      · refine z_iinc C (v1 + 1) [(1, .int (v1 + 1)), (0, .ref (a 0))] 33 d_D_sameSigns_30 rfl (by decide) rfl rfl rfl ?_
        refine z_goto C 2 d_D_sameSigns_33 (by decide) ?_
        refine z_lvs [1, 0] [(0, .ref (a 0)), (1, .int (v1 + 1))] rfl ?_
        exact ih S (v1 + 1) (zdec c_6 hmu) (by rw [show L_D_sameSigns_2 (n + 1) S v1 = (L_D_sameSigns_2 n S (v1 + 1)) from by rw [L_D_sameSigns_2, if_neg c_6, if_pos c_25]] at hq; exact hq)
      · refine z_iconst C 0 29 d_D_sameSigns_28 rfl (by decide) ?_
        exact z_zret C hlk rfl hr d_D_sameSigns_29 (by rw [show L_D_sameSigns_2 (n + 1) S v1 = 0 from by rw [L_D_sameSigns_2, if_neg c_6, if_neg c_25]] at hq; exact hq)
def F_D_sameSigns (S : SD)  : Int32 :=
  (L_D_sameSigns_2 ((Int32.toInt 147 - Int32.toInt 0).toNat + 1) S 0)
set_option maxRecDepth 100000 in
set_option maxHeartbeats 4000000 in
theorem c_D_sameSigns (G : zG) (l : Launch) (a : Nat → Nat) (S : SD)   : zM G l y_D_sameSigns b_D_sameSigns 2 (some .boolean) (zR 1 21) [.ref (a 0)] (wD G a S) (fun r1 w1 => r1 = some (.int (F_D_sameSigns S)) ∧ w1 = wD G a S) := by
  generalize hPost : (fun (r1 : Option Value) (w1 : va_W) => r1 = some (.int (F_D_sameSigns S)) ∧ w1 = wD G a S) = Post
  have hq : Post (some (.int (F_D_sameSigns S))) (wD G a S) := by rw [← hPost]; exact ⟨rfl, rfl⟩
  clear hPost
  refine zM_of (by decide) (Nat.le_of_ble_eq_true rfl) ?_
  intro p e s m args below meth c C hlk hr hin
  refine z_iconst C 0 1 d_D_sameSigns_0 rfl (by decide) ?_
  refine z_istore_n C [(1, .int 0), (0, .ref (a 0))] 2 d_D_sameSigns_1 rfl (by decide) rfl ?_
  refine z_lvs [1, 0] [(0, .ref (a 0)), (1, .int 0)] rfl ?_
  exact l_D_sameSigns_2 G l a C hlk hr _ S 0 (Nat.lt_succ_self _) (by rw [show F_D_sameSigns S = (L_D_sameSigns_2 ((Int32.toInt 147 - Int32.toInt 0).toNat + 1) S 0) from by rw [F_D_sameSigns]] at hq; exact hq)

def L_D_sameParts_10 (κ : SD → Int32 → Int32) : Nat → SD → Int32 → Int32 → Int32
  | 0, S, v1, v2 => 0
  | n + 1, S, v1, v2 =>
    if 3 ≤ v2 then
      (κ S v1)
    else
      if (F_K_number (sD_ours S) v1 v2) = (F_K_number (sD_theirs S) v1 v2) then
        (L_D_sameParts_10 κ n S v1 (v2 + 1))
      else
        0
set_option maxRecDepth 100000 in
set_option maxHeartbeats 4000000 in
theorem l_D_sameParts_10 (G : zG) (l : Launch) (a : Nat → Nat) {y1 : Int32} {p : Program} {e : Env} {s : State} {m : MethodId} {args : Array Value} {below : List Frame} {meth : Method} {c : Code} {w0 : va_W} {Post : Option Value → va_W → Prop} (C : zC p s m args meth c b_D_sameParts 3 N_D G (va_A w0 s.heap.size)) (hlk : meth.locks = false) (hr : meth.sig.returnType = some .boolean) (κ : SD → Int32 → Int32) (hk : ∀ (S9 : SD) (u1 : Int32), (u1 = y1) → Post (some (.int (κ S9 u1))) (wD G a S9) → zV p l e (zR 2 43) s m args below meth c 3 G (va_A w0 s.heap.size) (MQ below (zQ G w0 s.heap.size Post) args s 0 0 (va_A w0 s.heap.size)) 0 0 (wD G a S9) 44 [(0, .ref (a 0)), (1, .int u1)] []) :
    ∀ (n : Nat) (S : SD) (v1 : Int32) (v2 : Int32), (Int32.toInt 3 - Int32.toInt v2).toNat < n → (v1 = y1) → Post (some (.int (L_D_sameParts_10 κ n S v1 v2))) (wD G a S) → zV p l e (zR 2 43) s m args below meth c 3 G (va_A w0 s.heap.size) (MQ below (zQ G w0 s.heap.size Post) args s 0 0 (va_A w0 s.heap.size)) 0 0 (wD G a S) 10 [(0, .ref (a 0)), (1, .int v1), (2, .int v2)] [] := by
  intro n
  induction n with
  | zero => intro S v1 v2 h; exact absurd h (Nat.not_lt_zero _)
  | succ n ih =>
    intro S v1 v2 hmu hpre hq
    refine z_iload_n C 11 d_D_sameParts_10 rfl rfl ?_
    refine z_iconst C 3 12 d_D_sameParts_11 rfl (by decide) ?_
    refine z_icmp_ge C 44 15 d_D_sameParts_12 (by decide) rfl (fun c_12 => ?_) (fun c_12 => ?_)
    · refine z_lvs [0, 1] [(0, .ref (a 0)), (1, .int v1)] rfl ?_
      exact hk S v1 hpre (by rw [show L_D_sameParts_10 κ (n + 1) S v1 v2 = (κ S v1) from by rw [L_D_sameParts_10, if_pos c_12]] at hq; exact hq)
    · refine z_aload_n C 16 d_D_sameParts_15 rfl rfl ?_
      refine z_get C kf_D_16 0 (v := .ref (a 5)) 19 d_D_sameParts_16 rfl rfl rfl ?_
      refine z_iload_n C 20 d_D_sameParts_19 rfl rfl ?_
      refine z_iload_n C 21 d_D_sameParts_20 rfl rfl ?_
      refine z_go_ours_ro C (z_V C kc_D_58 (c_K_number G l (fun i => a (i + 5)) (sD_ours S) v1 v2) (st := []) 0 0 rfl rfl rfl rfl (Nat.le_of_ble_eq_true rfl) ⟨⟨Nat.le_of_ble_eq_true rfl, Nat.le_of_ble_eq_true rfl⟩, Nat.le_of_ble_eq_true rfl, Nat.le_of_ble_eq_true rfl⟩ d_D_sameParts_21) [.int (F_K_number (sD_ours S) v1 v2)] 24 rfl rfl ?_
      refine z_aload_n C 25 d_D_sameParts_24 rfl rfl ?_
      refine z_get C kf_D_19 0 (v := .ref (a 9)) 28 d_D_sameParts_25 rfl rfl rfl ?_
      refine z_iload_n C 29 d_D_sameParts_28 rfl rfl ?_
      refine z_iload_n C 30 d_D_sameParts_29 rfl rfl ?_
      refine z_go_theirs_ro C (z_V C kc_D_58 (c_K_number G l (fun i => a (i + 9)) (sD_theirs S) v1 v2) (st := [.int (F_K_number (sD_ours S) v1 v2)]) 0 0 rfl rfl rfl rfl (Nat.le_of_ble_eq_true rfl) ⟨⟨Nat.le_of_ble_eq_true rfl, Nat.le_of_ble_eq_true rfl⟩, Nat.le_of_ble_eq_true rfl, Nat.le_of_ble_eq_true rfl⟩ d_D_sameParts_30) [.int (F_K_number (sD_theirs S) v1 v2), .int (F_K_number (sD_ours S) v1 v2)] 33 rfl rfl ?_
      refine z_icmp_eq C 38 36 d_D_sameParts_33 (by decide) rfl (fun c_33 => ?_) (fun c_33 => ?_)
      · refine z_iinc C (v2 + 1) [(2, .int (v2 + 1)), (0, .ref (a 0)), (1, .int v1)] 41 d_D_sameParts_38 rfl (by decide) rfl rfl rfl ?_
        refine z_goto C 10 d_D_sameParts_41 (by decide) ?_
        refine z_lvs [1, 2, 0] [(0, .ref (a 0)), (1, .int v1), (2, .int (v2 + 1))] rfl ?_
        exact ih S v1 (v2 + 1) (zdec c_12 hmu) hpre (by rw [show L_D_sameParts_10 κ (n + 1) S v1 v2 = (L_D_sameParts_10 κ n S v1 (v2 + 1)) from by rw [L_D_sameParts_10, if_neg c_12, if_pos c_33]] at hq; exact hq)
      · refine z_iconst C 0 37 d_D_sameParts_36 rfl (by decide) ?_
        exact z_zret C hlk rfl hr d_D_sameParts_37 (by rw [show L_D_sameParts_10 κ (n + 1) S v1 v2 = 0 from by rw [L_D_sameParts_10, if_neg c_12, if_neg c_33]] at hq; exact hq)
def L_D_sameParts_2 : Nat → SD → Int32 → Int32
  | 0, S, v1 => 0
  | n + 1, S, v1 =>
    if 21 ≤ v1 then
      1
    else
      (L_D_sameParts_10 (fun S9 u1 =>
          (L_D_sameParts_2 n S9 (u1 + 1))) ((Int32.toInt 3 - Int32.toInt 0).toNat + 1) S v1 0)
set_option maxRecDepth 100000 in
set_option maxHeartbeats 4000000 in
theorem l_D_sameParts_2 (G : zG) (l : Launch) (a : Nat → Nat) {p : Program} {e : Env} {s : State} {m : MethodId} {args : Array Value} {below : List Frame} {meth : Method} {c : Code} {w0 : va_W} {Post : Option Value → va_W → Prop} (C : zC p s m args meth c b_D_sameParts 3 N_D G (va_A w0 s.heap.size)) (hlk : meth.locks = false) (hr : meth.sig.returnType = some .boolean) :
    ∀ (n : Nat) (S : SD) (v1 : Int32), (Int32.toInt 21 - Int32.toInt v1).toNat < n → Post (some (.int (L_D_sameParts_2 n S v1))) (wD G a S) → zV p l e (zR 2 43) s m args below meth c 3 G (va_A w0 s.heap.size) (MQ below (zQ G w0 s.heap.size Post) args s 0 0 (va_A w0 s.heap.size)) 0 0 (wD G a S) 2 [(0, .ref (a 0)), (1, .int v1)] [] := by
  intro n
  induction n with
  | zero => intro S v1 h; exact absurd h (Nat.not_lt_zero _)
  | succ n ih =>
    intro S v1 hmu hq
    refine z_iload_n C 3 d_D_sameParts_2 rfl rfl ?_
    refine z_bipush C 21 5 d_D_sameParts_3 rfl (by decide) ?_
    refine z_icmp_ge C 50 8 d_D_sameParts_5 (by decide) rfl (fun c_5 => ?_) (fun c_5 => ?_)
    · refine z_iconst C 1 51 d_D_sameParts_50 rfl (by decide) ?_
      exact z_zret C hlk rfl hr d_D_sameParts_51 (by rw [show L_D_sameParts_2 (n + 1) S v1 = 1 from by rw [L_D_sameParts_2, if_pos c_5]] at hq; exact hq)
    · refine z_iconst C 0 9 d_D_sameParts_8 rfl (by decide) ?_
      refine z_istore_n C [(2, .int 0), (0, .ref (a 0)), (1, .int v1)] 10 d_D_sameParts_9 rfl (by decide) rfl ?_
      refine z_lvs [1, 2, 0] [(0, .ref (a 0)), (1, .int v1), (2, .int 0)] rfl ?_
      refine l_D_sameParts_10 G l a C hlk hr (fun S9 u1 =>
          (L_D_sameParts_2 n S9 (u1 + 1))) (fun S9 u1 hx hq => ?_) _ S v1 0 (Nat.lt_succ_self _) rfl (by rw [show L_D_sameParts_2 (n + 1) S v1 = (L_D_sameParts_10 (fun S9 u1 =>
          (L_D_sameParts_2 n S9 (u1 + 1))) ((Int32.toInt 3 - Int32.toInt 0).toNat + 1) S v1 0) from by rw [L_D_sameParts_2, if_neg c_5]] at hq; exact hq)
      refine z_iinc C (u1 + 1) [(1, .int (u1 + 1)), (0, .ref (a 0))] 47 d_D_sameParts_44 rfl (by decide) rfl rfl rfl ?_
      refine z_goto C 2 d_D_sameParts_47 (by decide) ?_
      refine z_lvs [1, 0] [(0, .ref (a 0)), (1, .int (u1 + 1))] rfl ?_
      exact ih S9 (u1 + 1) (by subst hx; exact zdec c_5 hmu) (by (try dsimp only at hq); exact hq)
def F_D_sameParts (S : SD)  : Int32 :=
  (L_D_sameParts_2 ((Int32.toInt 21 - Int32.toInt 0).toNat + 1) S 0)
set_option maxRecDepth 100000 in
set_option maxHeartbeats 4000000 in
theorem c_D_sameParts (G : zG) (l : Launch) (a : Nat → Nat) (S : SD)   : zM G l y_D_sameParts b_D_sameParts 3 (some .boolean) (zR 2 43) [.ref (a 0)] (wD G a S) (fun r1 w1 => r1 = some (.int (F_D_sameParts S)) ∧ w1 = wD G a S) := by
  generalize hPost : (fun (r1 : Option Value) (w1 : va_W) => r1 = some (.int (F_D_sameParts S)) ∧ w1 = wD G a S) = Post
  have hq : Post (some (.int (F_D_sameParts S))) (wD G a S) := by rw [← hPost]; exact ⟨rfl, rfl⟩
  clear hPost
  refine zM_of (by decide) (Nat.le_of_ble_eq_true rfl) ?_
  intro p e s m args below meth c C hlk hr hin
  refine z_iconst C 0 1 d_D_sameParts_0 rfl (by decide) ?_
  refine z_istore_n C [(1, .int 0), (0, .ref (a 0))] 2 d_D_sameParts_1 rfl (by decide) rfl ?_
  refine z_lvs [1, 0] [(0, .ref (a 0)), (1, .int 0)] rfl ?_
  exact l_D_sameParts_2 G l a C hlk hr _ S 0 (Nat.lt_succ_self _) (by rw [show F_D_sameParts S = (L_D_sameParts_2 ((Int32.toInt 21 - Int32.toInt 0).toNat + 1) S 0) from by rw [F_D_sameParts]] at hq; exact hq)

def F_D_same (S : SD) (x1 : Int64) (x3 : Int32) (x4 : Int32) : Int32 × SD :=
  if (F_D_canBeDrawn x3 x4) = 0 then
    (0, S)
  else
    if (F_D_sameParts (uD_theirs (uD_ours S (F_K_fill (sD_ours S) (sD_seed S) x3 x4)) (F_K_fill (sD_theirs S) x1 x3 x4))) = 0 then
      (0, (uD_theirs (uD_ours S (F_K_fill (sD_ours S) (sD_seed S) x3 x4)) (F_K_fill (sD_theirs S) x1 x3 x4)))
    else
      if (F_D_sameSigns (uD_theirs (uD_ours S (F_K_fill (sD_ours S) (sD_seed S) x3 x4)) (F_K_fill (sD_theirs S) x1 x3 x4))) = 0 then
        (0, (uD_theirs (uD_ours S (F_K_fill (sD_ours S) (sD_seed S) x3 x4)) (F_K_fill (sD_theirs S) x1 x3 x4)))
      else
        (1, (uD_theirs (uD_ours S (F_K_fill (sD_ours S) (sD_seed S) x3 x4)) (F_K_fill (sD_theirs S) x1 x3 x4)))
set_option maxRecDepth 100000 in
set_option maxHeartbeats 4000000 in
theorem c_D_same (G : zG) (l : Launch) (a : Nat → Nat) (S : SD) (x1 : Int64) (x3 : Int32) (x4 : Int32)  : zM G l y_D_same b_D_same 5 (some .boolean) (zR 6 139) [.ref (a 0), .long x1, .int x3, .int x4] (wD G a S) (fun r1 w1 => r1 = some (.int (F_D_same S x1 x3 x4).1) ∧ w1 = wD G a (F_D_same S x1 x3 x4).2) := by
  generalize hPost : (fun (r1 : Option Value) (w1 : va_W) => r1 = some (.int (F_D_same S x1 x3 x4).1) ∧ w1 = wD G a (F_D_same S x1 x3 x4).2) = Post
  have hq : Post (some (.int (F_D_same S x1 x3 x4).1)) (wD G a (F_D_same S x1 x3 x4).2) := by rw [← hPost]; exact ⟨rfl, rfl⟩
  clear hPost
  refine zM_of (by decide) (Nat.le_of_ble_eq_true rfl) ?_
  intro p e s m args below meth c C hlk hr hin
  refine z_iload_n C 1 d_D_same_0 rfl rfl ?_
  refine z_iload C 3 d_D_same_1 rfl rfl ?_
  refine z_go0 C (z_S C kc_D_40 (c_D_canBeDrawn G l x3 x4) (st := []) rfl rfl (Nat.le_of_ble_eq_true rfl) ⟨⟨Nat.le_of_ble_eq_true rfl, Nat.le_of_ble_eq_true rfl⟩, Nat.le_of_ble_eq_true rfl, Nat.le_of_ble_eq_true rfl⟩ d_D_same_3) [0, 1, 2, 3, 4, 5, 6, 7, 8, 9, 10, 11, 12, 13, 14, 15, 16] [.int (F_D_canBeDrawn x3 x4)] 6 rfl rfl rfl rfl ?_
  refine z_if_ne C 11 9 d_D_same_6 (by decide) rfl (fun c_6 => ?_) (fun c_6 => ?_)
  · refine z_aload_n C 12 d_D_same_11 rfl rfl ?_
    refine z_get C kf_D_16 0 (v := .ref (a 5)) 15 d_D_same_12 rfl rfl rfl ?_
    refine z_aload_n C 16 d_D_same_15 rfl rfl ?_
    refine z_get C kf_D_36 0 (v := .long (sD_seed S)) 19 d_D_same_16 rfl rfl rfl ?_
    refine z_iload_n C 20 d_D_same_19 rfl rfl ?_
    refine z_iload C 22 d_D_same_20 rfl rfl ?_
    refine z_go_ours C (z_V C kc_D_44 (c_K_fill G l (fun i => a (i + 5)) (sD_ours S) (sD_seed S) x3 x4) (st := []) 0 0 rfl rfl rfl rfl (Nat.le_of_ble_eq_true rfl) ⟨⟨Nat.le_of_ble_eq_true rfl, Nat.le_of_ble_eq_true rfl⟩, Nat.le_of_ble_eq_true rfl, Nat.le_of_ble_eq_true rfl⟩ d_D_same_22) [] 25 rfl rfl ?_
    refine z_aload_n C 26 d_D_same_25 rfl rfl ?_
    refine z_get C kf_D_19 0 (v := .ref (a 9)) 29 d_D_same_26 rfl rfl rfl ?_
    refine z_lload_n C 30 d_D_same_29 rfl rfl ?_
    refine z_iload_n C 31 d_D_same_30 rfl rfl ?_
    refine z_iload C 33 d_D_same_31 rfl rfl ?_
    refine z_go_theirs C (z_V C kc_D_44 (c_K_fill G l (fun i => a (i + 9)) (sD_theirs S) x1 x3 x4) (st := []) 0 0 rfl rfl rfl rfl (Nat.le_of_ble_eq_true rfl) ⟨⟨Nat.le_of_ble_eq_true rfl, Nat.le_of_ble_eq_true rfl⟩, Nat.le_of_ble_eq_true rfl, Nat.le_of_ble_eq_true rfl⟩ d_D_same_33) [] 36 rfl rfl ?_
    refine z_aload_n C 37 d_D_same_36 rfl rfl ?_
    refine z_goA C (z_V C kc_D_100 (c_D_sameParts G l a (uD_theirs (uD_ours S (F_K_fill (sD_ours S) (sD_seed S) x3 x4)) (F_K_fill (sD_theirs S) x1 x3 x4))) (st := []) 0 2 rfl rfl rfl rfl (Nat.le_of_ble_eq_true rfl) ⟨⟨Nat.le_of_ble_eq_true rfl, Nat.le_of_ble_eq_true rfl⟩, Nat.le_of_ble_eq_true rfl, Nat.le_of_ble_eq_true rfl⟩ d_D_same_37) [.int (F_D_sameParts (uD_theirs (uD_ours S (F_K_fill (sD_ours S) (sD_seed S) x3 x4)) (F_K_fill (sD_theirs S) x1 x3 x4)))] 40 rfl rfl ?_
    refine z_if_eq C 54 43 d_D_same_40 (by decide) rfl (fun c_40 => ?_) (fun c_40 => ?_)
    · refine z_iconst C 0 55 d_D_same_54 rfl (by decide) ?_
      exact z_zret C hlk rfl hr d_D_same_55 (by rw [show F_D_same S x1 x3 x4 = (0, (uD_theirs (uD_ours S (F_K_fill (sD_ours S) (sD_seed S) x3 x4)) (F_K_fill (sD_theirs S) x1 x3 x4))) from by rw [F_D_same, if_neg c_6, if_pos c_40]] at hq; exact hq)
    · refine z_aload_n C 44 d_D_same_43 rfl rfl ?_
      refine z_goA C (z_V C kc_D_104 (c_D_sameSigns G l a (uD_theirs (uD_ours S (F_K_fill (sD_ours S) (sD_seed S) x3 x4)) (F_K_fill (sD_theirs S) x1 x3 x4))) (st := []) 0 2 rfl rfl rfl rfl (Nat.le_of_ble_eq_true rfl) ⟨⟨Nat.le_of_ble_eq_true rfl, Nat.le_of_ble_eq_true rfl⟩, Nat.le_of_ble_eq_true rfl, Nat.le_of_ble_eq_true rfl⟩ d_D_same_44) [.int (F_D_sameSigns (uD_theirs (uD_ours S (F_K_fill (sD_ours S) (sD_seed S) x3 x4)) (F_K_fill (sD_theirs S) x1 x3 x4)))] 47 rfl rfl ?_
      refine z_if_eq C 54 50 d_D_same_47 (by decide) rfl (fun c_47 => ?_) (fun c_47 => ?_)
      · refine z_iconst C 0 55 d_D_same_54 rfl (by decide) ?_
        exact z_zret C hlk rfl hr d_D_same_55 (by rw [show F_D_same S x1 x3 x4 = (0, (uD_theirs (uD_ours S (F_K_fill (sD_ours S) (sD_seed S) x3 x4)) (F_K_fill (sD_theirs S) x1 x3 x4))) from by rw [F_D_same, if_neg c_6, if_neg c_40, if_pos c_47]] at hq; exact hq)
      · refine z_iconst C 1 51 d_D_same_50 rfl (by decide) ?_
        refine z_goto C 55 d_D_same_51 (by decide) ?_
        exact z_zret C hlk rfl hr d_D_same_55 (by rw [show F_D_same S x1 x3 x4 = (1, (uD_theirs (uD_ours S (F_K_fill (sD_ours S) (sD_seed S) x3 x4)) (F_K_fill (sD_theirs S) x1 x3 x4))) from by rw [F_D_same, if_neg c_6, if_neg c_40, if_neg c_47]] at hq; exact hq)
  · refine z_iconst C 0 10 d_D_same_9 rfl (by decide) ?_
    exact z_zret C hlk rfl hr d_D_same_10 (by rw [show F_D_same S x1 x3 x4 = (0, S) from by rw [F_D_same, if_pos c_6]] at hq; exact hq)
end
