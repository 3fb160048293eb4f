-- ===== PART A: goes FIRST, ahead of the names: the tables' words, and 'selects' of the private methods out of them =====
/-- a private method of a class that the tables say can be made, by its rows of tables_1 -/
def lw_okq (q : MethodName × Nat) : Prop := (q.1.cls ≠ "java/lang/invoke/MethodHandle" ∧ q.1.cls ≠ "java/lang/invoke/VarHandle") ∧ Cond.instantiable q.1.cls q.2 ∈ tables_1 ∧ Cond.privateMethod q.1 ∈ tables_1 ∧ Cond.instanceMethod q.1 ∈ tables_1
theorem lw_p0 : lw_okq (⟨"RunRows$Writer", "writeOne", "(III)V"⟩, 1) := ⟨⟨by decide +kernel, by decide +kernel⟩, List.mem_of_getElem? (i := 36) (by decide +kernel), List.mem_of_getElem? (i := 190) (by decide +kernel), List.mem_of_getElem? (i := 191) (by decide +kernel)⟩
theorem lw_p1 : lw_okq (⟨"RunRows$Writer", "writeHead", "(I)V"⟩, 1) := ⟨⟨by decide +kernel, by decide +kernel⟩, List.mem_of_getElem? (i := 36) (by decide +kernel), List.mem_of_getElem? (i := 194) (by decide +kernel), List.mem_of_getElem? (i := 195) (by decide +kernel)⟩
theorem lw_p2 : lw_okq (⟨"RunRows$Writer", "groupsFrom", "(LRunRows$Row;I)I"⟩, 1) := ⟨⟨by decide +kernel, by decide +kernel⟩, List.mem_of_getElem? (i := 36) (by decide +kernel), List.mem_of_getElem? (i := 202) (by decide +kernel), List.mem_of_getElem? (i := 203) (by decide +kernel)⟩
theorem lw_p3 : lw_okq (⟨"RunRows$Writer", "writeGroups", "(LRunRows$Row;III)V"⟩, 1) := ⟨⟨by decide +kernel, by decide +kernel⟩, List.mem_of_getElem? (i := 36) (by decide +kernel), List.mem_of_getElem? (i := 206) (by decide +kernel), List.mem_of_getElem? (i := 207) (by decide +kernel)⟩
theorem lw_p4 : lw_okq (⟨"RunRows$Writer", "writeGroup", "(LRunRows$Row;II)V"⟩, 1) := ⟨⟨by decide +kernel, by decide +kernel⟩, List.mem_of_getElem? (i := 36) (by decide +kernel), List.mem_of_getElem? (i := 210) (by decide +kernel), List.mem_of_getElem? (i := 211) (by decide +kernel)⟩
theorem lw_p5 : lw_okq (⟨"RunRows$Reader", "readRun", "(LRunRows$Row;II)I"⟩, 3) := ⟨⟨by decide +kernel, by decide +kernel⟩, List.mem_of_getElem? (i := 49) (by decide +kernel), List.mem_of_getElem? (i := 229) (by decide +kernel), List.mem_of_getElem? (i := 230) (by decide +kernel)⟩
theorem lw_p6 : lw_okq (⟨"RunRows$Reader", "readHead", "()I"⟩, 3) := ⟨⟨by decide +kernel, by decide +kernel⟩, List.mem_of_getElem? (i := 49) (by decide +kernel), List.mem_of_getElem? (i := 233) (by decide +kernel), List.mem_of_getElem? (i := 234) (by decide +kernel)⟩
theorem lw_p7 : lw_okq (⟨"RunRows$Reader", "readOne", "(LRunRows$Row;II)I"⟩, 3) := ⟨⟨by decide +kernel, by decide +kernel⟩, List.mem_of_getElem? (i := 49) (by decide +kernel), List.mem_of_getElem? (i := 243) (by decide +kernel), List.mem_of_getElem? (i := 244) (by decide +kernel)⟩
theorem lw_p8 : lw_okq (⟨"RunRows$Reader", "nextByte", "()J"⟩, 3) := ⟨⟨by decide +kernel, by decide +kernel⟩, List.mem_of_getElem? (i := 49) (by decide +kernel), List.mem_of_getElem? (i := 247) (by decide +kernel), List.mem_of_getElem? (i := 248) (by decide +kernel)⟩
theorem lw_p9 : lw_okq (⟨"RunRows$Reader", "readGroups", "(LRunRows$Row;III)I"⟩, 3) := ⟨⟨by decide +kernel, by decide +kernel⟩, List.mem_of_getElem? (i := 49) (by decide +kernel), List.mem_of_getElem? (i := 252) (by decide +kernel), List.mem_of_getElem? (i := 253) (by decide +kernel)⟩
theorem lw_p10 : lw_okq (⟨"RunRows", "exchangeRows", "()V"⟩, 8) := ⟨⟨by decide +kernel, by decide +kernel⟩, List.mem_of_getElem? (i := 11) (by decide +kernel), List.mem_of_getElem? (i := 256) (by decide +kernel), List.mem_of_getElem? (i := 257) (by decide +kernel)⟩
theorem lw_p11 : lw_okq (⟨"RunRowsModel", "writeRuns", "([III)V"⟩, 13) := ⟨⟨by decide +kernel, by decide +kernel⟩, List.mem_of_getElem? (i := 279) (by decide +kernel), List.mem_of_getElem? (i := 349) (by decide +kernel), List.mem_of_getElem? (i := 350) (by decide +kernel)⟩
theorem lw_p12 : lw_okq (⟨"RunRowsModel", "putVarint", "(J)V"⟩, 13) := ⟨⟨by decide +kernel, by decide +kernel⟩, List.mem_of_getElem? (i := 279) (by decide +kernel), List.mem_of_getElem? (i := 357) (by decide +kernel), List.mem_of_getElem? (i := 358) (by decide +kernel)⟩
theorem lw_p13 : lw_okq (⟨"RunRowsModel", "put", "(I)V"⟩, 13) := ⟨⟨by decide +kernel, by decide +kernel⟩, List.mem_of_getElem? (i := 279) (by decide +kernel), List.mem_of_getElem? (i := 362) (by decide +kernel), List.mem_of_getElem? (i := 363) (by decide +kernel)⟩
theorem lw_p14 : lw_okq (⟨"RunRowsModel", "readRuns", "([IIII)V"⟩, 13) := ⟨⟨by decide +kernel, by decide +kernel⟩, List.mem_of_getElem? (i := 279) (by decide +kernel), List.mem_of_getElem? (i := 370) (by decide +kernel), List.mem_of_getElem? (i := 371) (by decide +kernel)⟩
theorem lw_p15 : lw_okq (⟨"RunRowsModel", "varint", "(I)J"⟩, 13) := ⟨⟨by decide +kernel, by decide +kernel⟩, List.mem_of_getElem? (i := 279) (by decide +kernel), List.mem_of_getElem? (i := 374) (by decide +kernel), List.mem_of_getElem? (i := 375) (by decide +kernel)⟩
def lw_privs_1 : List (MethodName × Nat) := [(⟨"RunRows$Writer", "writeOne", "(III)V"⟩, 1), (⟨"RunRows$Writer", "writeHead", "(I)V"⟩, 1), (⟨"RunRows$Writer", "groupsFrom", "(LRunRows$Row;I)I"⟩, 1), (⟨"RunRows$Writer", "writeGroups", "(LRunRows$Row;III)V"⟩, 1), (⟨"RunRows$Writer", "writeGroup", "(LRunRows$Row;II)V"⟩, 1), (⟨"RunRows$Reader", "readRun", "(LRunRows$Row;II)I"⟩, 3), (⟨"RunRows$Reader", "readHead", "()I"⟩, 3), (⟨"RunRows$Reader", "readOne", "(LRunRows$Row;II)I"⟩, 3), (⟨"RunRows$Reader", "nextByte", "()J"⟩, 3), (⟨"RunRows$Reader", "readGroups", "(LRunRows$Row;III)I"⟩, 3), (⟨"RunRows", "exchangeRows", "()V"⟩, 8), (⟨"RunRowsModel", "writeRuns", "([III)V"⟩, 13), (⟨"RunRowsModel", "putVarint", "(J)V"⟩, 13), (⟨"RunRowsModel", "put", "(I)V"⟩, 13), (⟨"RunRowsModel", "readRuns", "([IIII)V"⟩, 13), (⟨"RunRowsModel", "varint", "(I)J"⟩, 13)]
theorem lw_r1 : ∀ q ∈ lw_privs_1, lw_okq q := List.forall_mem_cons.mpr ⟨lw_p0, List.forall_mem_cons.mpr ⟨lw_p1, List.forall_mem_cons.mpr ⟨lw_p2, List.forall_mem_cons.mpr ⟨lw_p3, List.forall_mem_cons.mpr ⟨lw_p4, List.forall_mem_cons.mpr ⟨lw_p5, List.forall_mem_cons.mpr ⟨lw_p6, List.forall_mem_cons.mpr ⟨lw_p7, List.forall_mem_cons.mpr ⟨lw_p8, List.forall_mem_cons.mpr ⟨lw_p9, List.forall_mem_cons.mpr ⟨lw_p10, List.forall_mem_cons.mpr ⟨lw_p11, List.forall_mem_cons.mpr ⟨lw_p12, List.forall_mem_cons.mpr ⟨lw_p13, List.forall_mem_cons.mpr ⟨lw_p14, List.forall_mem_cons.mpr ⟨lw_p15, fun _ h => absurd h List.not_mem_nil⟩⟩⟩⟩⟩⟩⟩⟩⟩⟩⟩⟩⟩⟩⟩⟩
theorem lw_p16 : lw_okq (⟨"RunRowsModel", "readOne", "([IIIIIJ)I"⟩, 13) := ⟨⟨by decide +kernel, by decide +kernel⟩, List.mem_of_getElem? (i := 279) (by decide +kernel), List.mem_of_getElem? (i := 378) (by decide +kernel), List.mem_of_getElem? (i := 379) (by decide +kernel)⟩
theorem lw_p17 : lw_okq (⟨"RunRowsModel", "bitsAt", "(III)I"⟩, 13) := ⟨⟨by decide +kernel, by decide +kernel⟩, List.mem_of_getElem? (i := 279) (by decide +kernel), List.mem_of_getElem? (i := 382) (by decide +kernel), List.mem_of_getElem? (i := 383) (by decide +kernel)⟩
theorem lw_p18 : lw_okq (⟨"RunRowsModel", "readGroups", "([IIIIIJ)I"⟩, 13) := ⟨⟨by decide +kernel, by decide +kernel⟩, List.mem_of_getElem? (i := 279) (by decide +kernel), List.mem_of_getElem? (i := 386) (by decide +kernel), List.mem_of_getElem? (i := 387) (by decide +kernel)⟩
def lw_privs_2 : List (MethodName × Nat) := [(⟨"RunRowsModel", "readOne", "([IIIIIJ)I"⟩, 13), (⟨"RunRowsModel", "bitsAt", "(III)I"⟩, 13), (⟨"RunRowsModel", "readGroups", "([IIIIIJ)I"⟩, 13)]
theorem lw_r2 : ∀ q ∈ lw_privs_2, lw_okq q := List.forall_mem_cons.mpr ⟨lw_p16, List.forall_mem_cons.mpr ⟨lw_p17, List.forall_mem_cons.mpr ⟨lw_p18, fun _ h => absurd h List.not_mem_nil⟩⟩⟩
def lw_privs : List (MethodName × Nat) := lw_privs_1 ++ (lw_privs_2)
def lw_tbl : List Cond := k2_sels lw_privs ++ tables_1
theorem lw_privs_ok : ∀ q ∈ lw_privs, lw_okq q := by
  show ∀ q ∈ lw_privs_1 ++ (lw_privs_2), lw_okq q
  exact List.forall_mem_append.mpr ⟨lw_r1, lw_r2⟩
def lw_g : List Cond := lw_tbl.filter goodWord
theorem lw_in {i : Nat} {w : Cond} (h : tables_1[i]? = some w) (hg : goodWord w = true) : w ∈ lw_g := List.mem_filter.mpr ⟨List.mem_append.mpr (Or.inr (List.mem_of_getElem? h)), hg⟩
theorem lw_inp {i : Nat} {w : Cond} (h : (k2_sels lw_privs)[i]? = some w) (hg : goodWord w = true) : w ∈ lw_g := List.mem_filter.mpr ⟨List.mem_append.mpr (Or.inl (List.mem_of_getElem? h)), hg⟩
theorem lw_good {w : Cond} (h : w ∈ lw_g) : (w.onTables && w.keeps) = true ∨ ∃ ty, w = .arrayClass ty := good_of_word (List.mem_filter.mp h).2
theorem gdC {y : MethodName} {b : ByteArray} {n : Nat} {r : Option FieldType} (h : Cond.code y b n r ∈ lw_g) : GoodIn lw_g (Cond.code y b n r :: lw_g) := fun w hw => (List.mem_cons.mp hw).elim (fun e => by rw [e]; exact ⟨h, lw_good h⟩) (fun h => ⟨h, lw_good h⟩)
theorem gdV {own C : String} {idx : Nat} {y : MethodName} {b : ByteArray} {n : Nat} {r : Option FieldType} (h1 : Cond.methodLink own idx y ∈ lw_g) (h2 : Cond.instanceMethod y ∈ lw_g) (h3 : Cond.selects C y y ∈ lw_g) (h4 : Cond.initialized C ∈ lw_g) (h5 : Cond.code y b n r ∈ lw_g) : GoodIn lw_g (wsV own idx C y (Cond.code y b n r :: lw_g)) := by
  intro w hw
  rcases List.mem_append.mp hw with q | q
  · simp only [List.mem_cons, List.not_mem_nil, or_false] at q
    rcases q with q | q | q | q <;> rw [q]
    · exact ⟨h1, lw_good h1⟩
    · exact ⟨h2, lw_good h2⟩
    · exact ⟨h3, lw_good h3⟩
    · exact ⟨h4, lw_good h4⟩
  · exact gdC h5 w q
theorem gdS {own : String} {idx : Nat} {y : MethodName} {b : ByteArray} {n : Nat} {r : Option FieldType} (h1 : Cond.methodLink own idx y ∈ lw_g) (h2 : Cond.static y ∈ lw_g) (h4 : Cond.initialized y.cls ∈ lw_g) (h5 : Cond.code y b n r ∈ lw_g) : GoodIn lw_g (va_wsS own idx y (Cond.code y b n r :: lw_g)) := by
  intro w hw
  rcases List.mem_append.mp hw with q | q
  · simp only [List.mem_cons, List.not_mem_nil, or_false] at q
    rcases q with q | q | q <;> rw [q]
    · exact ⟨h1, lw_good h1⟩
    · exact ⟨h2, lw_good h2⟩
    · exact ⟨h4, lw_good h4⟩
  · exact gdC h5 w q
def RX0 : String := "RunRows$Bytes"
def TX0 : u_T := fun k => match k with
  | 0 => ("RunRows$Bytes", "bytes", "[B", true)
  | _ => ("RunRows$Bytes", "count", "I", false)
def tyX0 : Nat → FieldType := fun k => match k with
  | 0 => .array .byte
  | _ => .int
theorem nmX0 : ∀ a, a < 2 → ∀ b, b < 2 → a ≠ b → (TX0 a).2.1 ≠ (TX0 b).2.1 := by decide +kernel
theorem tyX0_ok : ∀ k, k < 2 → parseFieldDescriptor (TX0 k).2.2.1 = some (tyX0 k) := by decide +kernel
def RX1 : String := "RunRows$Reader"
def TX1 : u_T := fun k => match k with
  | 0 => ("RunRows$Reader", "from", "LRunRows$Bytes;", true)
  | 1 => ("RunRows$Reader", "at", "I", false)
  | _ => ("RunRows$Reader", "head", "J", false)
def tyX1 : Nat → FieldType := fun k => match k with
  | 0 => .object "RunRows$Bytes"
  | 1 => .int
  | _ => .long
theorem nmX1 : ∀ a, a < 3 → ∀ b, b < 3 → a ≠ b → (TX1 a).2.1 ≠ (TX1 b).2.1 := by decide +kernel
theorem tyX1_ok : ∀ k, k < 3 → parseFieldDescriptor (TX1 k).2.2.1 = some (tyX1 k) := by decide +kernel
def RX2 : String := "RunRows$Row"
def TX2 : u_T := fun k => match k with
  | 0 => ("RunRows$Row", "numbers", "[I", true)
  | _ => ("RunRows$Row", "count", "I", false)
def tyX2 : Nat → FieldType := fun k => match k with
  | 0 => .array .int
  | _ => .int
theorem nmX2 : ∀ a, a < 2 → ∀ b, b < 2 → a ≠ b → (TX2 a).2.1 ≠ (TX2 b).2.1 := by decide +kernel
theorem tyX2_ok : ∀ k, k < 2 → parseFieldDescriptor (TX2 k).2.2.1 = some (tyX2 k) := by decide +kernel
def RX3 : String := "RunRows$Writer"
def TX3 : u_T := fun k => match k with
  | _ => ("RunRows$Writer", "to", "LRunRows$Bytes;", true)
def tyX3 : Nat → FieldType := fun k => match k with
  | _ => .object "RunRows$Bytes"
theorem nmX3 : ∀ a, a < 1 → ∀ b, b < 1 → a ≠ b → (TX3 a).2.1 ≠ (TX3 b).2.1 := by decide +kernel
theorem tyX3_ok : ∀ k, k < 1 → parseFieldDescriptor (TX3 k).2.2.1 = some (tyX3 k) := by decide +kernel
def RX4 : String := "RunRows"
def TX4 : u_T := fun k => match k with
  | 0 => ("RunRows", "tape", "LRunRows$Bytes;", true)
  | 1 => ("RunRows", "writer", "LRunRows$Writer;", true)
  | 2 => ("RunRows", "reader", "LRunRows$Reader;", true)
  | 3 => ("RunRows", "output", "LRunRows$Bytes;", true)
  | 4 => ("RunRows", "input", "LRunRows$Bytes;", true)
  | 5 => ("RunRows", "row", "LRunRows$Row;", false)
  | 6 => ("RunRows", "spare", "LRunRows$Row;", false)
  | _ => ("RunRows", "width", "I", false)
def tyX4 : Nat → FieldType := fun k => match k with
  | 0 => .object "RunRows$Bytes"
  | 1 => .object "RunRows$Writer"
  | 2 => .object "RunRows$Reader"
  | 3 => .object "RunRows$Bytes"
  | 4 => .object "RunRows$Bytes"
  | 5 => .object "RunRows$Row"
  | 6 => .object "RunRows$Row"
  | _ => .int
theorem nmX4 : ∀ a, a < 8 → ∀ b, b < 8 → a ≠ b → (TX4 a).2.1 ≠ (TX4 b).2.1 := by decide +kernel
theorem tyX4_ok : ∀ k, k < 8 → parseFieldDescriptor (TX4 k).2.2.1 = some (tyX4 k) := by decide +kernel
def RX5 : String := "RunRowsModel"
def TX5 : u_T := fun k => match k with
  | 0 => ("RunRowsModel", "code", "I", false)
  | 1 => ("RunRowsModel", "row", "[I", true)
  | 2 => ("RunRowsModel", "spare", "[I", true)
  | 3 => ("RunRowsModel", "size", "I", false)
  | 4 => ("RunRowsModel", "width", "I", false)
  | 5 => ("RunRowsModel", "taped", "I", false)
  | 6 => ("RunRowsModel", "inputSize", "I", false)
  | 7 => ("RunRowsModel", "outSize", "I", false)
  | 8 => ("RunRowsModel", "at", "I", false)
  | 9 => ("RunRowsModel", "fault", "I", false)
  | 10 => ("RunRowsModel", "tape", "[I", true)
  | 11 => ("RunRowsModel", "input", "[I", true)
  | _ => ("RunRowsModel", "out", "[I", true)
def tyX5 : Nat → FieldType := fun k => match k with
  | 0 => .int
  | 1 => .array .int
  | 2 => .array .int
  | 3 => .int
  | 4 => .int
  | 5 => .int
  | 6 => .int
  | 7 => .int
  | 8 => .int
  | 9 => .int
  | 10 => .array .int
  | 11 => .array .int
  | _ => .array .int
theorem nmX5 : ∀ a, a < 13 → ∀ b, b < 13 → a ≠ b → (TX5 a).2.1 ≠ (TX5 b).2.1 := by decide +kernel
theorem tyX5_ok : ∀ k, k < 13 → parseFieldDescriptor (TX5 k).2.2.1 = some (tyX5 k) := by decide +kernel
def RJ7 : String := "java/util/Arrays"
def RJ9 : String := "java/lang/Math"
def RL : String := "RunRowsLaw"
abbrev vwCl : List vw_C := [(RX0, TX0, 2), (RX1, TX1, 3), (RX2, TX2, 2), (RX3, TX3, 1), (RX4, TX4, 8), (RX5, TX5, 13)]
abbrev cX4_init : ByteArray := prog_1_method_1_code
def yX4_init : MethodName := ⟨RX4, "<init>", "()V"⟩
def wsX4_init : List Cond := .code yX4_init cX4_init 1 none :: lw_g
abbrev cX0_init : ByteArray := prog_2_method_1_code
def yX0_init : MethodName := ⟨RX0, "<init>", "(I)V"⟩
def wsX0_init : List Cond := .code yX0_init cX0_init 2 none :: lw_g
abbrev cX3_init : ByteArray := prog_5_method_1_code
def yX3_init : MethodName := ⟨RX3, "<init>", "()V"⟩
def wsX3_init : List Cond := .code yX3_init cX3_init 1 none :: lw_g
abbrev cX1_init : ByteArray := prog_3_method_1_code
def yX1_init : MethodName := ⟨RX1, "<init>", "()V"⟩
def wsX1_init : List Cond := .code yX1_init cX1_init 1 none :: lw_g
abbrev cX2_init : ByteArray := prog_4_method_1_code
def yX2_init : MethodName := ⟨RX2, "<init>", "()V"⟩
def wsX2_init : List Cond := .code yX2_init cX2_init 1 none :: lw_g
abbrev cX4_feed : ByteArray := prog_1_method_2_code
def yX4_feed : MethodName := ⟨RX4, "feed", "(IIIII)Z"⟩
def wsX4_feed : List Cond := .code yX4_feed cX4_feed 6 (some .boolean) :: lw_g
abbrev cX0_room : ByteArray := prog_2_method_3_code
def yX0_room : MethodName := ⟨RX0, "room", "()I"⟩
def wsX0_room : List Cond := .code yX0_room cX0_room 1 (some .int) :: lw_g
abbrev cX0_putFour : ByteArray := prog_2_method_7_code
def yX0_putFour : MethodName := ⟨RX0, "putFour", "(I)V"⟩
def wsX0_putFour : List Cond := .code yX0_putFour cX0_putFour 3 none :: lw_g
abbrev cX0_put : ByteArray := prog_2_method_6_code
def yX0_put : MethodName := ⟨RX0, "put", "(I)V"⟩
def wsX0_put : List Cond := .code yX0_put cX0_put 2 none :: lw_g
abbrev cX4_end : ByteArray := prog_1_method_3_code
def yX4_end : MethodName := ⟨RX4, "end", "(I)Z"⟩
def wsX4_end : List Cond := .code yX4_end cX4_end 2 (some .boolean) :: lw_g
abbrev cX0_become : ByteArray := prog_2_method_8_code
def yX0_become : MethodName := ⟨RX0, "become", "(LRunRows$Bytes;I)Z"⟩
def wsX0_become : List Cond := .code yX0_become cX0_become 3 (some .boolean) :: lw_g
abbrev cX0_empty : ByteArray := prog_2_method_4_code
def yX0_empty : MethodName := ⟨RX0, "empty", "()V"⟩
def wsX0_empty : List Cond := .code yX0_empty cX0_empty 1 none :: lw_g
abbrev cX4_width : ByteArray := prog_1_method_4_code
def yX4_width : MethodName := ⟨RX4, "width", "(I)Z"⟩
def wsX4_width : List Cond := .code yX4_width cX4_width 2 (some .boolean) :: lw_g
abbrev cX4_add : ByteArray := prog_1_method_5_code
def yX4_add : MethodName := ⟨RX4, "add", "(II)Z"⟩
def wsX4_add : List Cond := .code yX4_add cX4_add 3 (some .boolean) :: lw_g
abbrev cX2_append : ByteArray := prog_4_method_5_code
def yX2_append : MethodName := ⟨RX2, "append", "(II)Z"⟩
def wsX2_append : List Cond := .code yX2_append cX2_append 3 (some .boolean) :: lw_g
abbrev cJ7_fill : ByteArray := prog_10_method_104_code
def yJ7_fill : MethodName := ⟨RJ7, "fill", "([IIII)V"⟩
def wsJ7_fill : List Cond := .code yJ7_fill cJ7_fill 5 none :: lw_g
abbrev cJ7_rangeCheck : ByteArray := prog_10_method_30_code
def yJ7_rangeCheck : MethodName := ⟨RJ7, "rangeCheck", "(III)V"⟩
def wsJ7_rangeCheck : List Cond := .code yJ7_rangeCheck cJ7_rangeCheck 3 none :: lw_g
abbrev cX4_clear : ByteArray := prog_1_method_6_code
def yX4_clear : MethodName := ⟨RX4, "clear", "()V"⟩
def wsX4_clear : List Cond := .code yX4_clear cX4_clear 1 none :: lw_g
abbrev cX2_empty : ByteArray := prog_4_method_3_code
def yX2_empty : MethodName := ⟨RX2, "empty", "()V"⟩
def wsX2_empty : List Cond := .code yX2_empty cX2_empty 1 none :: lw_g
abbrev cX4_encode : ByteArray := prog_1_method_7_code
def yX4_encode : MethodName := ⟨RX4, "encode", "()I"⟩
def wsX4_encode : List Cond := .code yX4_encode cX4_encode 1 (some .int) :: lw_g
abbrev cX2_fits : ByteArray := prog_4_method_6_code
def yX2_fits : MethodName := ⟨RX2, "fits", "(I)Z"⟩
def wsX2_fits : List Cond := .code yX2_fits cX2_fits 3 (some .boolean) :: lw_g
abbrev cX2_at : ByteArray := prog_4_method_4_code
def yX2_at : MethodName := ⟨RX2, "at", "(I)I"⟩
def wsX2_at : List Cond := .code yX2_at cX2_at 2 (some .int) :: lw_g
abbrev cX3_write : ByteArray := prog_5_method_2_code
def yX3_write : MethodName := ⟨RX3, "write", "(LRunRows$Row;I)V"⟩
def wsX3_write : List Cond := .code yX3_write cX3_write 7 none :: lw_g
abbrev cX2_count : ByteArray := prog_4_method_2_code
def yX2_count : MethodName := ⟨RX2, "count", "()I"⟩
def wsX2_count : List Cond := .code yX2_count cX2_count 1 (some .int) :: lw_g
abbrev cX2_sameFrom : ByteArray := prog_4_method_7_code
def yX2_sameFrom : MethodName := ⟨RX2, "sameFrom", "(I)I"⟩
def wsX2_sameFrom : List Cond := .code yX2_sameFrom cX2_sameFrom 4 (some .int) :: lw_g
abbrev cX3_writeOne : ByteArray := prog_5_method_4_code
def yX3_writeOne : MethodName := ⟨RX3, "writeOne", "(III)V"⟩
def wsX3_writeOne : List Cond := .code yX3_writeOne cX3_writeOne 5 none :: lw_g
abbrev cX3_writeHead : ByteArray := prog_5_method_7_code
def yX3_writeHead : MethodName := ⟨RX3, "writeHead", "(I)V"⟩
def wsX3_writeHead : List Cond := .code yX3_writeHead cX3_writeHead 4 none :: lw_g
abbrev cX4_numberBytes : ByteArray := prog_1_method_14_code
def yX4_numberBytes : MethodName := ⟨RX4, "numberBytes", "(I)I"⟩
def wsX4_numberBytes : List Cond := .code yX4_numberBytes cX4_numberBytes 1 (some .int) :: lw_g
abbrev cX3_groupsFrom : ByteArray := prog_5_method_3_code
def yX3_groupsFrom : MethodName := ⟨RX3, "groupsFrom", "(LRunRows$Row;I)I"⟩
def wsX3_groupsFrom : List Cond := .code yX3_groupsFrom cX3_groupsFrom 5 (some .int) :: lw_g
abbrev cX3_writeGroups : ByteArray := prog_5_method_5_code
def yX3_writeGroups : MethodName := ⟨RX3, "writeGroups", "(LRunRows$Row;III)V"⟩
def wsX3_writeGroups : List Cond := .code yX3_writeGroups cX3_writeGroups 6 none :: lw_g
abbrev cX3_writeGroup : ByteArray := prog_5_method_6_code
def yX3_writeGroup : MethodName := ⟨RX3, "writeGroup", "(LRunRows$Row;II)V"⟩
def wsX3_writeGroup : List Cond := .code yX3_writeGroup cX3_writeGroup 8 none :: lw_g
abbrev cX0_count : ByteArray := prog_2_method_2_code
def yX0_count : MethodName := ⟨RX0, "count", "()I"⟩
def wsX0_count : List Cond := .code yX0_count cX0_count 1 (some .int) :: lw_g
abbrev cX4_decode : ByteArray := prog_1_method_8_code
def yX4_decode : MethodName := ⟨RX4, "decode", "(I)I"⟩
def wsX4_decode : List Cond := .code yX4_decode cX4_decode 3 (some .int) :: lw_g
abbrev cX1_read : ByteArray := prog_3_method_2_code
def yX1_read : MethodName := ⟨RX1, "read", "(LRunRows$Row;II)I"⟩
def wsX1_read : List Cond := .code yX1_read cX1_read 6 (some .int) :: lw_g
abbrev cX1_readRun : ByteArray := prog_3_method_3_code
def yX1_readRun : MethodName := ⟨RX1, "readRun", "(LRunRows$Row;II)I"⟩
def wsX1_readRun : List Cond := .code yX1_readRun cX1_readRun 12 (some .int) :: lw_g
abbrev cX1_readHead : ByteArray := prog_3_method_4_code
def yX1_readHead : MethodName := ⟨RX1, "readHead", "()I"⟩
def wsX1_readHead : List Cond := .code yX1_readHead cX1_readHead 3 (some .int) :: lw_g
abbrev cX0_at : ByteArray := prog_2_method_5_code
def yX0_at : MethodName := ⟨RX0, "at", "(I)I"⟩
def wsX0_at : List Cond := .code yX0_at cX0_at 2 (some .int) :: lw_g
abbrev cX1_readOne : ByteArray := prog_3_method_5_code
def yX1_readOne : MethodName := ⟨RX1, "readOne", "(LRunRows$Row;II)I"⟩
def wsX1_readOne : List Cond := .code yX1_readOne cX1_readOne 7 (some .int) :: lw_g
abbrev cX1_nextByte : ByteArray := prog_3_method_7_code
def yX1_nextByte : MethodName := ⟨RX1, "nextByte", "()J"⟩
def wsX1_nextByte : List Cond := .code yX1_nextByte cX1_nextByte 2 (some .long) :: lw_g
abbrev cX1_readGroups : ByteArray := prog_3_method_6_code
def yX1_readGroups : MethodName := ⟨RX1, "readGroups", "(LRunRows$Row;III)I"⟩
def wsX1_readGroups : List Cond := .code yX1_readGroups cX1_readGroups 12 (some .int) :: lw_g
abbrev cX4_exchangeRows : ByteArray := prog_1_method_13_code
def yX4_exchangeRows : MethodName := ⟨RX4, "exchangeRows", "()V"⟩
def wsX4_exchangeRows : List Cond := .code yX4_exchangeRows cX4_exchangeRows 2 none :: lw_g
abbrev cX4_turn : ByteArray := prog_1_method_9_code
def yX4_turn : MethodName := ⟨RX4, "turn", "()Z"⟩
def wsX4_turn : List Cond := .code yX4_turn cX4_turn 1 (some .boolean) :: lw_g
abbrev cX4_size : ByteArray := prog_1_method_10_code
def yX4_size : MethodName := ⟨RX4, "size", "()I"⟩
def wsX4_size : List Cond := .code yX4_size cX4_size 1 (some .int) :: lw_g
abbrev cX4_value : ByteArray := prog_1_method_11_code
def yX4_value : MethodName := ⟨RX4, "value", "(I)I"⟩
def wsX4_value : List Cond := .code yX4_value cX4_value 2 (some .int) :: lw_g
abbrev cX4_output : ByteArray := prog_1_method_12_code
def yX4_output : MethodName := ⟨RX4, "output", "(I)I"⟩
def wsX4_output : List Cond := .code yX4_output cX4_output 2 (some .int) :: lw_g
abbrev cX5_init : ByteArray := prog_7_method_1_code
def yX5_init : MethodName := ⟨RX5, "<init>", "()V"⟩
def wsX5_init : List Cond := .code yX5_init cX5_init 1 none :: lw_g
abbrev cX5_feed : ByteArray := prog_7_method_6_code
def yX5_feed : MethodName := ⟨RX5, "feed", "(IIIII)Z"⟩
def wsX5_feed : List Cond := .code yX5_feed cX5_feed 8 (some .boolean) :: lw_g
abbrev cX5_end : ByteArray := prog_7_method_7_code
def yX5_end : MethodName := ⟨RX5, "end", "(I)Z"⟩
def wsX5_end : List Cond := .code yX5_end cX5_end 3 (some .boolean) :: lw_g
abbrev cX5_width : ByteArray := prog_7_method_8_code
def yX5_width : MethodName := ⟨RX5, "width", "(I)Z"⟩
def wsX5_width : List Cond := .code yX5_width cX5_width 2 (some .boolean) :: lw_g
abbrev cX5_add : ByteArray := prog_7_method_9_code
def yX5_add : MethodName := ⟨RX5, "add", "(II)Z"⟩
def wsX5_add : List Cond := .code yX5_add cX5_add 4 (some .boolean) :: lw_g
abbrev cX5_clear : ByteArray := prog_7_method_10_code
def yX5_clear : MethodName := ⟨RX5, "clear", "()V"⟩
def wsX5_clear : List Cond := .code yX5_clear cX5_clear 1 none :: lw_g
abbrev cX5_encode : ByteArray := prog_7_method_17_code
def yX5_encode : MethodName := ⟨RX5, "encode", "()I"⟩
def wsX5_encode : List Cond := .code yX5_encode cX5_encode 2 (some .int) :: lw_g
abbrev cX5_writeRuns : ByteArray := prog_7_method_12_code
def yX5_writeRuns : MethodName := ⟨RX5, "writeRuns", "([III)V"⟩
def wsX5_writeRuns : List Cond := .code yX5_writeRuns cX5_writeRuns 11 none :: lw_g
abbrev cX5_alike : ByteArray := prog_7_method_11_code
def yX5_alike : MethodName := ⟨RX5, "alike", "([III)I"⟩
def wsX5_alike : List Cond := .code yX5_alike cX5_alike 4 (some .int) :: lw_g
abbrev cX5_putVarint : ByteArray := prog_7_method_5_code
def yX5_putVarint : MethodName := ⟨RX5, "putVarint", "(J)V"⟩
def wsX5_putVarint : List Cond := .code yX5_putVarint cX5_putVarint 5 none :: lw_g
abbrev cX5_put : ByteArray := prog_7_method_3_code
def yX5_put : MethodName := ⟨RX5, "put", "(I)V"⟩
def wsX5_put : List Cond := .code yX5_put cX5_put 2 none :: lw_g
abbrev cX5_decode : ByteArray := prog_7_method_18_code
def yX5_decode : MethodName := ⟨RX5, "decode", "(I)I"⟩
def wsX5_decode : List Cond := .code yX5_decode cX5_decode 3 (some .int) :: lw_g
abbrev cX5_readRuns : ByteArray := prog_7_method_14_code
def yX5_readRuns : MethodName := ⟨RX5, "readRuns", "([IIII)V"⟩
def wsX5_readRuns : List Cond := .code yX5_readRuns cX5_readRuns 10 none :: lw_g
abbrev cX5_varint : ByteArray := prog_7_method_4_code
def yX5_varint : MethodName := ⟨RX5, "varint", "(I)J"⟩
def wsX5_varint : List Cond := .code yX5_varint cX5_varint 6 (some .long) :: lw_g
abbrev cX5_readOne : ByteArray := prog_7_method_15_code
def yX5_readOne : MethodName := ⟨RX5, "readOne", "([IIIIIJ)I"⟩
def wsX5_readOne : List Cond := .code yX5_readOne cX5_readOne 11 (some .int) :: lw_g
abbrev cX5_bitsAt : ByteArray := prog_7_method_13_code
def yX5_bitsAt : MethodName := ⟨RX5, "bitsAt", "(III)I"⟩
def wsX5_bitsAt : List Cond := .code yX5_bitsAt cX5_bitsAt 6 (some .int) :: lw_g
abbrev cX5_readGroups : ByteArray := prog_7_method_16_code
def yX5_readGroups : MethodName := ⟨RX5, "readGroups", "([IIIIIJ)I"⟩
def wsX5_readGroups : List Cond := .code yX5_readGroups cX5_readGroups 10 (some .int) :: lw_g
abbrev cX5_turn : ByteArray := prog_7_method_19_code
def yX5_turn : MethodName := ⟨RX5, "turn", "()Z"⟩
def wsX5_turn : List Cond := .code yX5_turn cX5_turn 2 (some .boolean) :: lw_g
abbrev cX5_size : ByteArray := prog_7_method_20_code
def yX5_size : MethodName := ⟨RX5, "size", "()I"⟩
def wsX5_size : List Cond := .code yX5_size cX5_size 1 (some .int) :: lw_g
abbrev cX5_value : ByteArray := prog_7_method_21_code
def yX5_value : MethodName := ⟨RX5, "value", "(I)I"⟩
def wsX5_value : List Cond := .code yX5_value cX5_value 2 (some .int) :: lw_g
abbrev cX5_output : ByteArray := prog_7_method_22_code
def yX5_output : MethodName := ⟨RX5, "output", "(I)I"⟩
def wsX5_output : List Cond := .code yX5_output cX5_output 2 (some .int) :: lw_g
theorem iX0 : ∀ w ∈ u_ws RX0 TX0 2, w ∈ lw_g := by decide +kernel
theorem iX1 : ∀ w ∈ u_ws RX1 TX1 3, w ∈ lw_g := by decide +kernel
theorem iX2 : ∀ w ∈ u_ws RX2 TX2 2, w ∈ lw_g := by decide +kernel
theorem iX3 : ∀ w ∈ u_ws RX3 TX3 1, w ∈ lw_g := by decide +kernel
theorem iX4 : ∀ w ∈ u_ws RX4 TX4 8, w ∈ lw_g := by decide +kernel
theorem iX5 : ∀ w ∈ u_ws RX5 TX5 13, w ∈ lw_g := by decide +kernel
