-- ===== PART A: goes FIRST, ahead of the names: the tables' words, and 'selects' of the private methods out of them =====
/-- a private method of a class that the tables say can be made, by its rows of tables_1 -/
def lw_okq (q : MethodName × Nat) : Prop := (q.1.cls ≠ "java/lang/invoke/MethodHandle" ∧ q.1.cls ≠ "java/lang/invoke/VarHandle") ∧ Cond.instantiable q.1.cls q.2 ∈ tables_1 ∧ Cond.privateMethod q.1 ∈ tables_1 ∧ Cond.instanceMethod q.1 ∈ tables_1
theorem lw_p0 : lw_okq (⟨"LibraryDrawer$Case", "fillPart", "(I)V"⟩, 7) := ⟨⟨by decide +kernel, by decide +kernel⟩, List.mem_of_getElem? (i := 15) (by decide +kernel), List.mem_of_getElem? (i := 93) (by decide +kernel), List.mem_of_getElem? (i := 94) (by decide +kernel)⟩
theorem lw_p1 : lw_okq (⟨"LibraryDrawer$Case", "fillRecord", "(I)V"⟩, 7) := ⟨⟨by decide +kernel, by decide +kernel⟩, List.mem_of_getElem? (i := 15) (by decide +kernel), List.mem_of_getElem? (i := 97) (by decide +kernel), List.mem_of_getElem? (i := 98) (by decide +kernel)⟩
theorem lw_p2 : lw_okq (⟨"LibraryDrawer$Case", "startTitle", "(I)V"⟩, 7) := ⟨⟨by decide +kernel, by decide +kernel⟩, List.mem_of_getElem? (i := 15) (by decide +kernel), List.mem_of_getElem? (i := 101) (by decide +kernel), List.mem_of_getElem? (i := 102) (by decide +kernel)⟩
theorem lw_p3 : lw_okq (⟨"LibraryDrawer$Case", "has", "(I)Z"⟩, 7) := ⟨⟨by decide +kernel, by decide +kernel⟩, List.mem_of_getElem? (i := 15) (by decide +kernel), List.mem_of_getElem? (i := 105) (by decide +kernel), List.mem_of_getElem? (i := 106) (by decide +kernel)⟩
theorem lw_p4 : lw_okq (⟨"LibraryDrawer$Case", "next", "(I)I"⟩, 7) := ⟨⟨by decide +kernel, by decide +kernel⟩, List.mem_of_getElem? (i := 15) (by decide +kernel), List.mem_of_getElem? (i := 109) (by decide +kernel), List.mem_of_getElem? (i := 110) (by decide +kernel)⟩
theorem lw_p5 : lw_okq (⟨"LibraryDrawer$Case", "put", "(IIII)V"⟩, 7) := ⟨⟨by decide +kernel, by decide +kernel⟩, List.mem_of_getElem? (i := 15) (by decide +kernel), List.mem_of_getElem? (i := 115) (by decide +kernel), List.mem_of_getElem? (i := 116) (by decide +kernel)⟩
theorem lw_p6 : lw_okq (⟨"LibraryDrawer$Case", "addSign", "(I)V"⟩, 7) := ⟨⟨by decide +kernel, by decide +kernel⟩, List.mem_of_getElem? (i := 15) (by decide +kernel), List.mem_of_getElem? (i := 119) (by decide +kernel), List.mem_of_getElem? (i := 120) (by decide +kernel)⟩
theorem lw_p7 : lw_okq (⟨"LibraryDrawer$Case", "repeatTitle", "(I)V"⟩, 7) := ⟨⟨by decide +kernel, by decide +kernel⟩, List.mem_of_getElem? (i := 15) (by decide +kernel), List.mem_of_getElem? (i := 127) (by decide +kernel), List.mem_of_getElem? (i := 128) (by decide +kernel)⟩
theorem lw_p8 : lw_okq (⟨"LibraryDrawer$Case", "fillFile", "(I)V"⟩, 7) := ⟨⟨by decide +kernel, by decide +kernel⟩, List.mem_of_getElem? (i := 15) (by decide +kernel), List.mem_of_getElem? (i := 135) (by decide +kernel), List.mem_of_getElem? (i := 136) (by decide +kernel)⟩
theorem lw_p9 : lw_okq (⟨"LibraryDrawer$Case", "fillFileWithWinner", "(I)V"⟩, 7) := ⟨⟨by decide +kernel, by decide +kernel⟩, List.mem_of_getElem? (i := 15) (by decide +kernel), List.mem_of_getElem? (i := 139) (by decide +kernel), List.mem_of_getElem? (i := 140) (by decide +kernel)⟩
theorem lw_p10 : lw_okq (⟨"LibraryDrawer$Case", "fillFileWithoutWinner", "(I)V"⟩, 7) := ⟨⟨by decide +kernel, by decide +kernel⟩, List.mem_of_getElem? (i := 15) (by decide +kernel), List.mem_of_getElem? (i := 143) (by decide +kernel), List.mem_of_getElem? (i := 144) (by decide +kernel)⟩
theorem lw_p11 : lw_okq (⟨"LibraryDrawer$Case", "fillPattern", "(I)V"⟩, 7) := ⟨⟨by decide +kernel, by decide +kernel⟩, List.mem_of_getElem? (i := 15) (by decide +kernel), List.mem_of_getElem? (i := 147) (by decide +kernel), List.mem_of_getElem? (i := 148) (by decide +kernel)⟩
theorem lw_p12 : lw_okq (⟨"LibraryDrawer$Case", "fillLine", "(I)V"⟩, 7) := ⟨⟨by decide +kernel, by decide +kernel⟩, List.mem_of_getElem? (i := 15) (by decide +kernel), List.mem_of_getElem? (i := 151) (by decide +kernel), List.mem_of_getElem? (i := 152) (by decide +kernel)⟩
theorem lw_p13 : lw_okq (⟨"LibraryDrawer$Case", "fillReader", "(I)V"⟩, 7) := ⟨⟨by decide +kernel, by decide +kernel⟩, List.mem_of_getElem? (i := 15) (by decide +kernel), List.mem_of_getElem? (i := 155) (by decide +kernel), List.mem_of_getElem? (i := 156) (by decide +kernel)⟩
theorem lw_p14 : lw_okq (⟨"LibraryDrawer$Case", "fillAct", "(I)V"⟩, 7) := ⟨⟨by decide +kernel, by decide +kernel⟩, List.mem_of_getElem? (i := 15) (by decide +kernel), List.mem_of_getElem? (i := 159) (by decide +kernel), List.mem_of_getElem? (i := 160) (by decide +kernel)⟩
theorem lw_p15 : lw_okq (⟨"LibraryDrawer$Case", "timeBefore", "(I)I"⟩, 7) := ⟨⟨by decide +kernel, by decide +kernel⟩, List.mem_of_getElem? (i := 15) (by decide +kernel), List.mem_of_getElem? (i := 163) (by decide +kernel), List.mem_of_getElem? (i := 164) (by decide +kernel)⟩
def lw_privs_1 : List (MethodName × Nat) := [(⟨"LibraryDrawer$Case", "fillPart", "(I)V"⟩, 7), (⟨"LibraryDrawer$Case", "fillRecord", "(I)V"⟩, 7), (⟨"LibraryDrawer$Case", "startTitle", "(I)V"⟩, 7), (⟨"LibraryDrawer$Case", "has", "(I)Z"⟩, 7), (⟨"LibraryDrawer$Case", "next", "(I)I"⟩, 7), (⟨"LibraryDrawer$Case", "put", "(IIII)V"⟩, 7), (⟨"LibraryDrawer$Case", "addSign", "(I)V"⟩, 7), (⟨"LibraryDrawer$Case", "repeatTitle", "(I)V"⟩, 7), (⟨"LibraryDrawer$Case", "fillFile", "(I)V"⟩, 7), (⟨"LibraryDrawer$Case", "fillFileWithWinner", "(I)V"⟩, 7), (⟨"LibraryDrawer$Case", "fillFileWithoutWinner", "(I)V"⟩, 7), (⟨"LibraryDrawer$Case", "fillPattern", "(I)V"⟩, 7), (⟨"LibraryDrawer$Case", "fillLine", "(I)V"⟩, 7), (⟨"LibraryDrawer$Case", "fillReader", "(I)V"⟩, 7), (⟨"LibraryDrawer$Case", "fillAct", "(I)V"⟩, 7), (⟨"LibraryDrawer$Case", "timeBefore", "(I)I"⟩, 7)]
theorem lw_r1 : ∀ q ∈ lw_privs_1, lw_okq q := List.forall_mem_cons.mpr ⟨lw_p0, List.forall_mem_cons.mpr ⟨lw_p1, List.forall_mem_cons.mpr ⟨lw_p2, List.forall_mem_cons.mpr ⟨lw_p3, List.forall_mem_cons.mpr ⟨lw_p4, List.forall_mem_cons.mpr ⟨lw_p5, List.forall_mem_cons.mpr ⟨lw_p6, List.forall_mem_cons.mpr ⟨lw_p7, List.forall_mem_cons.mpr ⟨lw_p8, List.forall_mem_cons.mpr ⟨lw_p9, List.forall_mem_cons.mpr ⟨lw_p10, List.forall_mem_cons.mpr ⟨lw_p11, List.forall_mem_cons.mpr ⟨lw_p12, List.forall_mem_cons.mpr ⟨lw_p13, List.forall_mem_cons.mpr ⟨lw_p14, List.forall_mem_cons.mpr ⟨lw_p15, fun _ h => absurd h List.not_mem_nil⟩⟩⟩⟩⟩⟩⟩⟩⟩⟩⟩⟩⟩⟩⟩⟩
theorem lw_p16 : lw_okq (⟨"LibraryDrawer$Case", "votes", "(II)I"⟩, 7) := ⟨⟨by decide +kernel, by decide +kernel⟩, List.mem_of_getElem? (i := 15) (by decide +kernel), List.mem_of_getElem? (i := 197) (by decide +kernel), List.mem_of_getElem? (i := 198) (by decide +kernel)⟩
theorem lw_p17 : lw_okq (⟨"LibraryDrawer", "smallerCase", "(I)I"⟩, 7) := ⟨⟨by decide +kernel, by decide +kernel⟩, List.mem_of_getElem? (i := 7) (by decide +kernel), List.mem_of_getElem? (i := 236) (by decide +kernel), List.mem_of_getElem? (i := 237) (by decide +kernel)⟩
theorem lw_p18 : lw_okq (⟨"LibraryDrawer", "staysFor", "(I)Z"⟩, 7) := ⟨⟨by decide +kernel, by decide +kernel⟩, List.mem_of_getElem? (i := 7) (by decide +kernel), List.mem_of_getElem? (i := 240) (by decide +kernel), List.mem_of_getElem? (i := 241) (by decide +kernel)⟩
theorem lw_p19 : lw_okq (⟨"LibraryDrawer", "afterOneGoing", "(I)I"⟩, 7) := ⟨⟨by decide +kernel, by decide +kernel⟩, List.mem_of_getElem? (i := 7) (by decide +kernel), List.mem_of_getElem? (i := 252) (by decide +kernel), List.mem_of_getElem? (i := 253) (by decide +kernel)⟩
theorem lw_p20 : lw_okq (⟨"LibraryDrawer", "sameParts", "()Z"⟩, 7) := ⟨⟨by decide +kernel, by decide +kernel⟩, List.mem_of_getElem? (i := 7) (by decide +kernel), List.mem_of_getElem? (i := 280) (by decide +kernel), List.mem_of_getElem? (i := 281) (by decide +kernel)⟩
theorem lw_p21 : lw_okq (⟨"LibraryDrawer", "sameSigns", "()Z"⟩, 7) := ⟨⟨by decide +kernel, by decide +kernel⟩, List.mem_of_getElem? (i := 7) (by decide +kernel), List.mem_of_getElem? (i := 284) (by decide +kernel), List.mem_of_getElem? (i := 285) (by decide +kernel)⟩
theorem lw_p22 : lw_okq (⟨"LibraryDrawerModel", "draws", "(IJII)V"⟩, 11) := ⟨⟨by decide +kernel, by decide +kernel⟩, List.mem_of_getElem? (i := 291) (by decide +kernel), List.mem_of_getElem? (i := 342) (by decide +kernel), List.mem_of_getElem? (i := 343) (by decide +kernel)⟩
theorem lw_p23 : lw_okq (⟨"LibraryDrawerModel", "part", "(IIII)V"⟩, 11) := ⟨⟨by decide +kernel, by decide +kernel⟩, List.mem_of_getElem? (i := 291) (by decide +kernel), List.mem_of_getElem? (i := 348) (by decide +kernel), List.mem_of_getElem? (i := 349) (by decide +kernel)⟩
theorem lw_p24 : lw_okq (⟨"LibraryDrawerModel", "record", "(II)V"⟩, 11) := ⟨⟨by decide +kernel, by decide +kernel⟩, List.mem_of_getElem? (i := 291) (by decide +kernel), List.mem_of_getElem? (i := 355) (by decide +kernel), List.mem_of_getElem? (i := 356) (by decide +kernel)⟩
theorem lw_p25 : lw_okq (⟨"LibraryDrawerModel", "next", "(I)I"⟩, 11) := ⟨⟨by decide +kernel, by decide +kernel⟩, List.mem_of_getElem? (i := 291) (by decide +kernel), List.mem_of_getElem? (i := 359) (by decide +kernel), List.mem_of_getElem? (i := 360) (by decide +kernel)⟩
theorem lw_p26 : lw_okq (⟨"LibraryDrawerModel", "file", "(II)V"⟩, 11) := ⟨⟨by decide +kernel, by decide +kernel⟩, List.mem_of_getElem? (i := 291) (by decide +kernel), List.mem_of_getElem? (i := 365) (by decide +kernel), List.mem_of_getElem? (i := 366) (by decide +kernel)⟩
theorem lw_p27 : lw_okq (⟨"LibraryDrawerModel", "all", "()I"⟩, 11) := ⟨⟨by decide +kernel, by decide +kernel⟩, List.mem_of_getElem? (i := 291) (by decide +kernel), List.mem_of_getElem? (i := 369) (by decide +kernel), List.mem_of_getElem? (i := 370) (by decide +kernel)⟩
theorem lw_p28 : lw_okq (⟨"LibraryDrawerModel", "isPart", "(I)Z"⟩, 11) := ⟨⟨by decide +kernel, by decide +kernel⟩, List.mem_of_getElem? (i := 291) (by decide +kernel), List.mem_of_getElem? (i := 377) (by decide +kernel), List.mem_of_getElem? (i := 378) (by decide +kernel)⟩
theorem lw_p29 : lw_okq (⟨"LibraryDrawerModel", "wins", "(I)I"⟩, 11) := ⟨⟨by decide +kernel, by decide +kernel⟩, List.mem_of_getElem? (i := 291) (by decide +kernel), List.mem_of_getElem? (i := 389) (by decide +kernel), List.mem_of_getElem? (i := 390) (by decide +kernel)⟩
theorem lw_p30 : lw_okq (⟨"LibraryDrawerModel", "lastDay", "(I)I"⟩, 11) := ⟨⟨by decide +kernel, by decide +kernel⟩, List.mem_of_getElem? (i := 291) (by decide +kernel), List.mem_of_getElem? (i := 397) (by decide +kernel), List.mem_of_getElem? (i := 398) (by decide +kernel)⟩
theorem lw_p31 : lw_okq (⟨"LibraryDrawerModel", "isPlanted", "(II)Z"⟩, 11) := ⟨⟨by decide +kernel, by decide +kernel⟩, List.mem_of_getElem? (i := 291) (by decide +kernel), List.mem_of_getElem? (i := 405) (by decide +kernel), List.mem_of_getElem? (i := 406) (by decide +kernel)⟩
def lw_privs_2 : List (MethodName × Nat) := [(⟨"LibraryDrawer$Case", "votes", "(II)I"⟩, 7), (⟨"LibraryDrawer", "smallerCase", "(I)I"⟩, 7), (⟨"LibraryDrawer", "staysFor", "(I)Z"⟩, 7), (⟨"LibraryDrawer", "afterOneGoing", "(I)I"⟩, 7), (⟨"LibraryDrawer", "sameParts", "()Z"⟩, 7), (⟨"LibraryDrawer", "sameSigns", "()Z"⟩, 7), (⟨"LibraryDrawerModel", "draws", "(IJII)V"⟩, 11), (⟨"LibraryDrawerModel", "part", "(IIII)V"⟩, 11), (⟨"LibraryDrawerModel", "record", "(II)V"⟩, 11), (⟨"LibraryDrawerModel", "next", "(I)I"⟩, 11), (⟨"LibraryDrawerModel", "file", "(II)V"⟩, 11), (⟨"LibraryDrawerModel", "all", "()I"⟩, 11), (⟨"LibraryDrawerModel", "isPart", "(I)Z"⟩, 11), (⟨"LibraryDrawerModel", "wins", "(I)I"⟩, 11), (⟨"LibraryDrawerModel", "lastDay", "(I)I"⟩, 11), (⟨"LibraryDrawerModel", "isPlanted", "(II)Z"⟩, 11)]
theorem lw_r2 : ∀ q ∈ lw_privs_2, lw_okq q := List.forall_mem_cons.mpr ⟨lw_p16, List.forall_mem_cons.mpr ⟨lw_p17, List.forall_mem_cons.mpr ⟨lw_p18, List.forall_mem_cons.mpr ⟨lw_p19, List.forall_mem_cons.mpr ⟨lw_p20, List.forall_mem_cons.mpr ⟨lw_p21, List.forall_mem_cons.mpr ⟨lw_p22, List.forall_mem_cons.mpr ⟨lw_p23, List.forall_mem_cons.mpr ⟨lw_p24, List.forall_mem_cons.mpr ⟨lw_p25, List.forall_mem_cons.mpr ⟨lw_p26, List.forall_mem_cons.mpr ⟨lw_p27, List.forall_mem_cons.mpr ⟨lw_p28, List.forall_mem_cons.mpr ⟨lw_p29, List.forall_mem_cons.mpr ⟨lw_p30, List.forall_mem_cons.mpr ⟨lw_p31, fun _ h => absurd h List.not_mem_nil⟩⟩⟩⟩⟩⟩⟩⟩⟩⟩⟩⟩⟩⟩⟩⟩
theorem lw_p32 : lw_okq (⟨"LibraryDrawerModel", "stays", "(I)Z"⟩, 11) := ⟨⟨by decide +kernel, by decide +kernel⟩, List.mem_of_getElem? (i := 291) (by decide +kernel), List.mem_of_getElem? (i := 417) (by decide +kernel), List.mem_of_getElem? (i := 418) (by decide +kernel)⟩
def lw_privs_3 : List (MethodName × Nat) := [(⟨"LibraryDrawerModel", "stays", "(I)Z"⟩, 11)]
theorem lw_r3 : ∀ q ∈ lw_privs_3, lw_okq q := List.forall_mem_cons.mpr ⟨lw_p32, fun _ h => absurd h List.not_mem_nil⟩
def lw_privs : List (MethodName × Nat) := lw_privs_1 ++ (lw_privs_2 ++ (lw_privs_3))
def lw_tbl : List Cond := k2_sels lw_privs ++ tables_1
theorem lw_privs_ok : ∀ q ∈ lw_privs, lw_okq q := by
  show ∀ q ∈ lw_privs_1 ++ (lw_privs_2 ++ (lw_privs_3)), lw_okq q
  exact List.forall_mem_append.mpr ⟨lw_r1, List.forall_mem_append.mpr ⟨lw_r2, lw_r3⟩⟩
/-- the words that a contract may carry -/
def zTs : List Cond := lw_tbl.filter goodWord
theorem zTs_good : ∀ w ∈ zTs, (w.onTables && w.keeps) = true ∨ ∃ ty, w = .arrayClass ty := fun _ h => good_of_word (List.mem_filter.mp h).2
theorem zTs_tbl : ∀ w ∈ zTs, w ∈ lw_tbl := fun _ h => (List.mem_filter.mp h).1
theorem zTs_at {w : Cond} (i : Nat) (h : lw_tbl[i]? = some w) (g : goodWord w = true) : w ∈ zTs := List.mem_filter.mpr ⟨List.mem_of_getElem? h, g⟩
def N_K : String := "LibraryDrawer$Case"
def T_K : u_T := fun k => match k with
  | 0 => ("LibraryDrawer$Case", "numbers", "[I", true)
  | 1 => ("LibraryDrawer$Case", "signs", "[I", true)
  | 2 => ("LibraryDrawer$Case", "titleStarts", "[I", true)
  | 3 => ("LibraryDrawer$Case", "chance", "J", false)
  | 4 => ("LibraryDrawer$Case", "kind", "I", false)
  | 5 => ("LibraryDrawer$Case", "parts", "I", false)
  | _ => ("LibraryDrawer$Case", "signsUsed", "I", false)
def t_K : Nat → FieldType := fun k => match k with
  | 0 => .array .int
  | 1 => .array .int
  | 2 => .array .int
  | 3 => .long
  | 4 => .int
  | 5 => .int
  | _ => .int
def N_R : String := "LibraryDrawer$Rows"
def T_R : u_T := fun k => match k with
  | 0 => ("LibraryDrawer$Rows", "rows", "[I", true)
  | _ => ("LibraryDrawer$Rows", "told", "I", false)
def t_R : Nat → FieldType := fun k => match k with
  | 0 => .array .int
  | _ => .int
def N_D : String := "LibraryDrawer"
def T_D : u_T := fun k => match k with
  | 0 => ("LibraryDrawer", "seed", "J", true)
  | 1 => ("LibraryDrawer", "drawn", "LLibraryDrawer$Case;", true)
  | 2 => ("LibraryDrawer", "ours", "LLibraryDrawer$Case;", true)
  | 3 => ("LibraryDrawer", "theirs", "LLibraryDrawer$Case;", true)
  | 4 => ("LibraryDrawer", "needed", "LLibraryDrawer$Rows;", true)
  | 5 => ("LibraryDrawer", "together", "LLibraryDrawer$Rows;", true)
  | _ => ("LibraryDrawer", "leftParts", "I", false)
def t_D : Nat → FieldType := fun k => match k with
  | 0 => .long
  | 1 => .object "LibraryDrawer$Case"
  | 2 => .object "LibraryDrawer$Case"
  | 3 => .object "LibraryDrawer$Case"
  | 4 => .object "LibraryDrawer$Rows"
  | 5 => .object "LibraryDrawer$Rows"
  | _ => .int
def N_M : String := "LibraryDrawerModel"
def T_M : u_T := fun k => match k with
  | 0 => ("LibraryDrawerModel", "thrown", "I", false)
  | 1 => ("LibraryDrawerModel", "seed", "J", true)
  | 2 => ("LibraryDrawerModel", "chance", "J", false)
  | 3 => ("LibraryDrawerModel", "kind", "I", false)
  | 4 => ("LibraryDrawerModel", "parts", "I", false)
  | 5 => ("LibraryDrawerModel", "values", "[I", true)
  | 6 => ("LibraryDrawerModel", "title", "[B", true)
  | 7 => ("LibraryDrawerModel", "needed", "I", false)
  | 8 => ("LibraryDrawerModel", "together", "I", false)
  | 9 => ("LibraryDrawerModel", "rows", "[I", true)
  | _ => ("LibraryDrawerModel", "left", "I", false)
def t_M : Nat → FieldType := fun k => match k with
  | 0 => .int
  | 1 => .long
  | 2 => .long
  | 3 => .int
  | 4 => .int
  | 5 => .array .int
  | 6 => .array .byte
  | 7 => .int
  | 8 => .int
  | 9 => .array .int
  | _ => .int
def N_J : String := "java/lang/Integer"
def N_L : String := "LibraryDrawerLaw"
abbrev vwCl : List vw_C := [(N_K, T_K, 7), (N_R, T_R, 2), (N_D, T_D, 7), (N_M, T_M, 11)]
abbrev zTy (cA : Nat → ClassId) : List (ClassId × FieldType) := [(cA 0, .int), (cA 1, .byte)]
abbrev b_D_init : ByteArray := prog_1_method_1_code
def y_D_init : MethodName := ⟨N_D, "<init>", "(J)V"⟩
abbrev b_K_init : ByteArray := prog_2_method_1_code
def y_K_init : MethodName := ⟨N_K, "<init>", "()V"⟩
abbrev b_R_init : ByteArray := prog_3_method_1_code
def y_R_init : MethodName := ⟨N_R, "<init>", "()V"⟩
abbrev b_D_draw : ByteArray := prog_1_method_2_code
def y_D_draw : MethodName := ⟨N_D, "draw", "(II)I"⟩
abbrev b_D_canBeDrawn : ByteArray := prog_1_method_13_code
def y_D_canBeDrawn : MethodName := ⟨N_D, "canBeDrawn", "(II)Z"⟩
abbrev b_K_fill : ByteArray := prog_2_method_6_code
def y_K_fill : MethodName := ⟨N_K, "fill", "(JII)V"⟩
abbrev b_K_fillPart : ByteArray := prog_2_method_7_code
def y_K_fillPart : MethodName := ⟨N_K, "fillPart", "(I)V"⟩
abbrev b_K_fillRecord : ByteArray := prog_2_method_8_code
def y_K_fillRecord : MethodName := ⟨N_K, "fillRecord", "(I)V"⟩
abbrev b_K_startTitle : ByteArray := prog_2_method_10_code
def y_K_startTitle : MethodName := ⟨N_K, "startTitle", "(I)V"⟩
abbrev b_K_has : ByteArray := prog_2_method_22_code
def y_K_has : MethodName := ⟨N_K, "has", "(I)Z"⟩
abbrev b_K_next : ByteArray := prog_2_method_20_code
def y_K_next : MethodName := ⟨N_K, "next", "(I)I"⟩
abbrev b_K_put : ByteArray := prog_2_method_21_code
def y_K_put : MethodName := ⟨N_K, "put", "(IIII)V"⟩
abbrev b_K_addSign : ByteArray := prog_2_method_11_code
def y_K_addSign : MethodName := ⟨N_K, "addSign", "(I)V"⟩
abbrev b_K_number : ByteArray := prog_2_method_4_code
def y_K_number : MethodName := ⟨N_K, "number", "(II)I"⟩
abbrev b_K_repeatTitle : ByteArray := prog_2_method_9_code
def y_K_repeatTitle : MethodName := ⟨N_K, "repeatTitle", "(I)V"⟩
abbrev b_K_sign : ByteArray := prog_2_method_5_code
def y_K_sign : MethodName := ⟨N_K, "sign", "(I)I"⟩
abbrev b_K_fillFile : ByteArray := prog_2_method_12_code
def y_K_fillFile : MethodName := ⟨N_K, "fillFile", "(I)V"⟩
abbrev b_K_fillFileWithWinner : ByteArray := prog_2_method_13_code
def y_K_fillFileWithWinner : MethodName := ⟨N_K, "fillFileWithWinner", "(I)V"⟩
abbrev b_K_fillFileWithoutWinner : ByteArray := prog_2_method_14_code
def y_K_fillFileWithoutWinner : MethodName := ⟨N_K, "fillFileWithoutWinner", "(I)V"⟩
abbrev b_K_fillPattern : ByteArray := prog_2_method_15_code
def y_K_fillPattern : MethodName := ⟨N_K, "fillPattern", "(I)V"⟩
abbrev b_K_fillLine : ByteArray := prog_2_method_16_code
def y_K_fillLine : MethodName := ⟨N_K, "fillLine", "(I)V"⟩
abbrev b_K_fillReader : ByteArray := prog_2_method_17_code
def y_K_fillReader : MethodName := ⟨N_K, "fillReader", "(I)V"⟩
abbrev b_K_fillAct : ByteArray := prog_2_method_18_code
def y_K_fillAct : MethodName := ⟨N_K, "fillAct", "(I)V"⟩
abbrev b_K_timeBefore : ByteArray := prog_2_method_19_code
def y_K_timeBefore : MethodName := ⟨N_K, "timeBefore", "(I)I"⟩
abbrev b_R_clear : ByteArray := prog_3_method_2_code
def y_R_clear : MethodName := ⟨N_R, "clear", "()V"⟩
abbrev b_K_allParts : ByteArray := prog_2_method_3_code
def y_K_allParts : MethodName := ⟨N_K, "allParts", "()I"⟩
abbrev b_K_count : ByteArray := prog_2_method_2_code
def y_K_count : MethodName := ⟨N_K, "count", "()I"⟩
abbrev b_D_part : ByteArray := prog_1_method_3_code
def y_D_part : MethodName := ⟨N_D, "part", "(II)I"⟩
abbrev b_D_letter : ByteArray := prog_1_method_4_code
def y_D_letter : MethodName := ⟨N_D, "letter", "(I)I"⟩
abbrev b_D_majority : ByteArray := prog_1_method_5_code
def y_D_majority : MethodName := ⟨N_D, "majority", "(I)I"⟩
abbrev b_K_winner : ByteArray := prog_2_method_23_code
def y_K_winner : MethodName := ⟨N_K, "winner", "(I)I"⟩
abbrev b_K_votes : ByteArray := prog_2_method_24_code
def y_K_votes : MethodName := ⟨N_K, "votes", "(II)I"⟩
abbrev b_D_ends : ByteArray := prog_1_method_6_code
def y_D_ends : MethodName := ⟨N_D, "ends", "(I)Z"⟩
abbrev b_K_isPattern : ByteArray := prog_2_method_25_code
def y_K_isPattern : MethodName := ⟨N_K, "isPattern", "(I)Z"⟩
abbrev b_K_lastDay : ByteArray := prog_2_method_26_code
def y_K_lastDay : MethodName := ⟨N_K, "lastDay", "(I)I"⟩
abbrev b_D_planted : ByteArray := prog_1_method_7_code
def y_D_planted : MethodName := ⟨N_D, "planted", "(I)I"⟩
abbrev b_K_shows : ByteArray := prog_2_method_27_code
def y_K_shows : MethodName := ⟨N_K, "shows", "(II)Z"⟩
abbrev b_D_verdict : ByteArray := prog_1_method_8_code
def y_D_verdict : MethodName := ⟨N_D, "verdict", "(IZ)V"⟩
abbrev b_R_add : ByteArray := prog_3_method_3_code
def y_R_add : MethodName := ⟨N_R, "add", "(I)V"⟩
abbrev b_D_shorter : ByteArray := prog_1_method_9_code
def y_D_shorter : MethodName := ⟨N_D, "shorter", "()I"⟩
abbrev b_D_smallerCase : ByteArray := prog_1_method_17_code
def y_D_smallerCase : MethodName := ⟨N_D, "smallerCase", "(I)I"⟩
abbrev b_D_staysFor : ByteArray := prog_1_method_16_code
def y_D_staysFor : MethodName := ⟨N_D, "staysFor", "(I)Z"⟩
abbrev b_R_oneIsWithin : ByteArray := prog_3_method_4_code
def y_R_oneIsWithin : MethodName := ⟨N_R, "oneIsWithin", "(I)Z"⟩
abbrev b_R_oneIsTornBy : ByteArray := prog_3_method_5_code
def y_R_oneIsTornBy : MethodName := ⟨N_R, "oneIsTornBy", "(I)Z"⟩
abbrev b_D_afterOneGoing : ByteArray := prog_1_method_18_code
def y_D_afterOneGoing : MethodName := ⟨N_D, "afterOneGoing", "(I)I"⟩
abbrev b_D_isIn : ByteArray := prog_1_method_19_code
def y_D_isIn : MethodName := ⟨N_D, "isIn", "(II)Z"⟩
abbrev b_D_without : ByteArray := prog_1_method_20_code
def y_D_without : MethodName := ⟨N_D, "without", "(II)I"⟩
abbrev b_J_bitCount : ByteArray := prog_6_method_49_code
def y_J_bitCount : MethodName := ⟨N_J, "bitCount", "(I)I"⟩
abbrev b_D_left : ByteArray := prog_1_method_10_code
def y_D_left : MethodName := ⟨N_D, "left", "(I)I"⟩
abbrev b_D_minimal : ByteArray := prog_1_method_11_code
def y_D_minimal : MethodName := ⟨N_D, "minimal", "()Z"⟩
abbrev b_D_same : ByteArray := prog_1_method_12_code
def y_D_same : MethodName := ⟨N_D, "same", "(JII)Z"⟩
abbrev b_D_sameParts : ByteArray := prog_1_method_14_code
def y_D_sameParts : MethodName := ⟨N_D, "sameParts", "()Z"⟩
abbrev b_D_sameSigns : ByteArray := prog_1_method_15_code
def y_D_sameSigns : MethodName := ⟨N_D, "sameSigns", "()Z"⟩
abbrev b_L_cell : ByteArray := method_2_code
def y_L_cell : MethodName := ⟨N_L, "cell", "([II)I"⟩
abbrev b_M_init : ByteArray := prog_5_method_1_code
def y_M_init : MethodName := ⟨N_M, "<init>", "(J)V"⟩
abbrev b_M_draw : ByteArray := prog_5_method_12_code
def y_M_draw : MethodName := ⟨N_M, "draw", "(II)I"⟩
abbrev b_M_can : ByteArray := prog_5_method_10_code
def y_M_can : MethodName := ⟨N_M, "can", "(II)Z"⟩
abbrev b_M_in : ByteArray := prog_5_method_3_code
def y_M_in : MethodName := ⟨N_M, "in", "(III)Z"⟩
abbrev b_M_draws : ByteArray := prog_5_method_9_code
def y_M_draws : MethodName := ⟨N_M, "draws", "(IJII)V"⟩
abbrev b_M_part4 : ByteArray := prog_5_method_8_code
def y_M_part4 : MethodName := ⟨N_M, "part", "(IIII)V"⟩
abbrev b_M_at : ByteArray := prog_5_method_5_code
def y_M_at : MethodName := ⟨N_M, "at", "(II)I"⟩
abbrev b_M_record : ByteArray := prog_5_method_6_code
def y_M_record : MethodName := ⟨N_M, "record", "(II)V"⟩
abbrev b_M_next : ByteArray := prog_5_method_4_code
def y_M_next : MethodName := ⟨N_M, "next", "(I)I"⟩
abbrev b_M_file : ByteArray := prog_5_method_7_code
def y_M_file : MethodName := ⟨N_M, "file", "(II)V"⟩
abbrev b_M_all : ByteArray := prog_5_method_11_code
def y_M_all : MethodName := ⟨N_M, "all", "()I"⟩
abbrev b_M_part : ByteArray := prog_5_method_14_code
def y_M_part : MethodName := ⟨N_M, "part", "(II)I"⟩
abbrev b_M_isPart : ByteArray := prog_5_method_13_code
def y_M_isPart : MethodName := ⟨N_M, "isPart", "(I)Z"⟩
abbrev b_M_letter : ByteArray := prog_5_method_15_code
def y_M_letter : MethodName := ⟨N_M, "letter", "(I)I"⟩
abbrev b_M_majority : ByteArray := prog_5_method_17_code
def y_M_majority : MethodName := ⟨N_M, "majority", "(I)I"⟩
abbrev b_M_wins : ByteArray := prog_5_method_16_code
def y_M_wins : MethodName := ⟨N_M, "wins", "(I)I"⟩
abbrev b_M_ends : ByteArray := prog_5_method_19_code
def y_M_ends : MethodName := ⟨N_M, "ends", "(I)Z"⟩
abbrev b_M_lastDay : ByteArray := prog_5_method_18_code
def y_M_lastDay : MethodName := ⟨N_M, "lastDay", "(I)I"⟩
abbrev b_M_planted : ByteArray := prog_5_method_21_code
def y_M_planted : MethodName := ⟨N_M, "planted", "(I)I"⟩
abbrev b_M_isPlanted : ByteArray := prog_5_method_20_code
def y_M_isPlanted : MethodName := ⟨N_M, "isPlanted", "(II)Z"⟩
abbrev b_M_verdict : ByteArray := prog_5_method_22_code
def y_M_verdict : MethodName := ⟨N_M, "verdict", "(IZ)V"⟩
abbrev b_M_shorter : ByteArray := prog_5_method_25_code
def y_M_shorter : MethodName := ⟨N_M, "shorter", "()I"⟩
abbrev b_M_stays : ByteArray := prog_5_method_23_code
def y_M_stays : MethodName := ⟨N_M, "stays", "(I)Z"⟩
abbrev b_M_count : ByteArray := prog_5_method_24_code
def y_M_count : MethodName := ⟨N_M, "count", "(I)I"⟩
abbrev b_M_left : ByteArray := prog_5_method_26_code
def y_M_left : MethodName := ⟨N_M, "left", "(I)I"⟩
abbrev b_M_minimal : ByteArray := prog_5_method_27_code
def y_M_minimal : MethodName := ⟨N_M, "minimal", "()Z"⟩
abbrev b_M_same : ByteArray := prog_5_method_28_code
def y_M_same : MethodName := ⟨N_M, "same", "(JII)Z"⟩
def zNest : List Cond := [.methodLinkNest N_D 11 y_K_init "LibraryDrawer", .methodLinkNest N_D 24 y_R_init "LibraryDrawer", .methodLinkNest N_K 39 y_D_canBeDrawn "LibraryDrawer"]
theorem zNest_tab : ∀ w ∈ zNest, w.onTables = true := by decide +kernel
theorem zNest_form : ∀ w ∈ zNest, ∃ (a : String) (i : Nat) (x : MethodName) (h : String), w = .methodLinkNest a i x h := by
  intro w hw
  simp only [zNest, List.mem_cons, List.not_mem_nil, or_false] at hw
  rcases hw with rfl | rfl | rfl <;> exact ⟨_, _, _, _, rfl⟩
theorem zNest_tbl : ∀ w ∈ zNest, w ∈ lw_tbl := by
  intro w hw
  simp only [zNest, List.mem_cons, List.not_mem_nil, or_false] at hw
  rcases hw with rfl | rfl | rfl
  · exact List.mem_of_getElem? (i := 49) (by decide +kernel)
  · exact List.mem_of_getElem? (i := 78) (by decide +kernel)
  · exact List.mem_of_getElem? (i := 122) (by decide +kernel)
