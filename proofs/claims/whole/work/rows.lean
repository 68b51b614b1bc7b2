section
-- ===== PART A: goes FIRST, ahead of the names: the tables' words, and 'selects' of the private methods out of them =====
/-- a private method of a class that the tables say can be made, by its rows of tables_1 -/
def lw_okq (q : MethodName × Nat) : Prop := (q.1.cls ≠ "java/lang/invoke/MethodHandle" ∧ q.1.cls ≠ "java/lang/invoke/VarHandle") ∧ Cond.instantiable q.1.cls q.2 ∈ tables_1 ∧ Cond.privateMethod q.1 ∈ tables_1 ∧ Cond.instanceMethod q.1 ∈ tables_1
theorem lw_p0 : lw_okq (⟨"BlockTargetSession", "beginSession", "()V"⟩, 11) := ⟨⟨by decide +kernel, by decide +kernel⟩, List.mem_of_getElem? (i := 10) (by decide +kernel), List.mem_of_getElem? (i := 100) (by decide +kernel), List.mem_of_getElem? (i := 101) (by decide +kernel)⟩
theorem lw_p1 : lw_okq (⟨"BlockTargetSession", "addRequest", "(IIII)I"⟩, 11) := ⟨⟨by decide +kernel, by decide +kernel⟩, List.mem_of_getElem? (i := 10) (by decide +kernel), List.mem_of_getElem? (i := 148) (by decide +kernel), List.mem_of_getElem? (i := 149) (by decide +kernel)⟩
theorem lw_p2 : lw_okq (⟨"BlockTargetSession", "firstOpenRequest", "()I"⟩, 11) := ⟨⟨by decide +kernel, by decide +kernel⟩, List.mem_of_getElem? (i := 10) (by decide +kernel), List.mem_of_getElem? (i := 194) (by decide +kernel), List.mem_of_getElem? (i := 195) (by decide +kernel)⟩
theorem lw_p3 : lw_okq (⟨"BlockTargetSession", "sendUp", "(III)V"⟩, 11) := ⟨⟨by decide +kernel, by decide +kernel⟩, List.mem_of_getElem? (i := 10) (by decide +kernel), List.mem_of_getElem? (i := 198) (by decide +kernel), List.mem_of_getElem? (i := 199) (by decide +kernel)⟩
theorem lw_p4 : lw_okq (⟨"BlockTargetSession", "lineOf", "(Z)LBlockTargetSession$Line;"⟩, 11) := ⟨⟨by decide +kernel, by decide +kernel⟩, List.mem_of_getElem? (i := 10) (by decide +kernel), List.mem_of_getElem? (i := 214) (by decide +kernel), List.mem_of_getElem? (i := 215) (by decide +kernel)⟩
theorem lw_p5 : lw_okq (⟨"BlockTargetSession", "breakSession", "()V"⟩, 11) := ⟨⟨by decide +kernel, by decide +kernel⟩, List.mem_of_getElem? (i := 10) (by decide +kernel), List.mem_of_getElem? (i := 222) (by decide +kernel), List.mem_of_getElem? (i := 223) (by decide +kernel)⟩
theorem lw_p6 : lw_okq (⟨"BlockTargetSession", "workAtTarget", "(LBlockTargetSession$Message;)V"⟩, 11) := ⟨⟨by decide +kernel, by decide +kernel⟩, List.mem_of_getElem? (i := 10) (by decide +kernel), List.mem_of_getElem? (i := 237) (by decide +kernel), List.mem_of_getElem? (i := 238) (by decide +kernel)⟩
theorem lw_p7 : lw_okq (⟨"BlockTargetSession", "requestAt", "(I)LBlockTargetSession$Request;"⟩, 11) := ⟨⟨by decide +kernel, by decide +kernel⟩, List.mem_of_getElem? (i := 10) (by decide +kernel), List.mem_of_getElem? (i := 241) (by decide +kernel), List.mem_of_getElem? (i := 242) (by decide +kernel)⟩
theorem lw_p8 : lw_okq (⟨"BlockTargetSession", "workPartOfWrite", "(ILBlockTargetSession$Request;I)V"⟩, 11) := ⟨⟨by decide +kernel, by decide +kernel⟩, List.mem_of_getElem? (i := 10) (by decide +kernel), List.mem_of_getElem? (i := 245) (by decide +kernel), List.mem_of_getElem? (i := 246) (by decide +kernel)⟩
theorem lw_p9 : lw_okq (⟨"BlockTargetSession", "sendDown", "(IIII)V"⟩, 11) := ⟨⟨by decide +kernel, by decide +kernel⟩, List.mem_of_getElem? (i := 10) (by decide +kernel), List.mem_of_getElem? (i := 249) (by decide +kernel), List.mem_of_getElem? (i := 250) (by decide +kernel)⟩
theorem lw_p10 : lw_okq (⟨"BlockTargetSession$Store", "placeOf", "(I)I"⟩, 5) := ⟨⟨by decide +kernel, by decide +kernel⟩, List.mem_of_getElem? (i := 75) (by decide +kernel), List.mem_of_getElem? (i := 257) (by decide +kernel), List.mem_of_getElem? (i := 258) (by decide +kernel)⟩
theorem lw_p11 : lw_okq (⟨"BlockTargetSession", "finish", "(I)V"⟩, 11) := ⟨⟨by decide +kernel, by decide +kernel⟩, List.mem_of_getElem? (i := 10) (by decide +kernel), List.mem_of_getElem? (i := 265) (by decide +kernel), List.mem_of_getElem? (i := 266) (by decide +kernel)⟩
theorem lw_p12 : lw_okq (⟨"BlockTargetSession", "workRead", "(ILBlockTargetSession$Request;)V"⟩, 11) := ⟨⟨by decide +kernel, by decide +kernel⟩, List.mem_of_getElem? (i := 10) (by decide +kernel), List.mem_of_getElem? (i := 269) (by decide +kernel), List.mem_of_getElem? (i := 270) (by decide +kernel)⟩
theorem lw_p13 : lw_okq (⟨"BlockTargetSession", "workSync", "(I)V"⟩, 11) := ⟨⟨by decide +kernel, by decide +kernel⟩, List.mem_of_getElem? (i := 10) (by decide +kernel), List.mem_of_getElem? (i := 277) (by decide +kernel), List.mem_of_getElem? (i := 278) (by decide +kernel)⟩
theorem lw_p14 : lw_okq (⟨"BlockTargetSession", "takeAtInitiator", "(LBlockTargetSession$Message;)V"⟩, 11) := ⟨⟨by decide +kernel, by decide +kernel⟩, List.mem_of_getElem? (i := 10) (by decide +kernel), List.mem_of_getElem? (i := 285) (by decide +kernel), List.mem_of_getElem? (i := 286) (by decide +kernel)⟩
theorem lw_p15 : lw_okq (⟨"BlockTargetSession", "requestsIn", "(I)I"⟩, 11) := ⟨⟨by decide +kernel, by decide +kernel⟩, List.mem_of_getElem? (i := 10) (by decide +kernel), List.mem_of_getElem? (i := 317) (by decide +kernel), List.mem_of_getElem? (i := 318) (by decide +kernel)⟩
def lw_privs_1 : List (MethodName × Nat) := [(⟨"BlockTargetSession", "beginSession", "()V"⟩, 11), (⟨"BlockTargetSession", "addRequest", "(IIII)I"⟩, 11), (⟨"BlockTargetSession", "firstOpenRequest", "()I"⟩, 11), (⟨"BlockTargetSession", "sendUp", "(III)V"⟩, 11), (⟨"BlockTargetSession", "lineOf", "(Z)LBlockTargetSession$Line;"⟩, 11), (⟨"BlockTargetSession", "breakSession", "()V"⟩, 11), (⟨"BlockTargetSession", "workAtTarget", "(LBlockTargetSession$Message;)V"⟩, 11), (⟨"BlockTargetSession", "requestAt", "(I)LBlockTargetSession$Request;"⟩, 11), (⟨"BlockTargetSession", "workPartOfWrite", "(ILBlockTargetSession$Request;I)V"⟩, 11), (⟨"BlockTargetSession", "sendDown", "(IIII)V"⟩, 11), (⟨"BlockTargetSession$Store", "placeOf", "(I)I"⟩, 5), (⟨"BlockTargetSession", "finish", "(I)V"⟩, 11), (⟨"BlockTargetSession", "workRead", "(ILBlockTargetSession$Request;)V"⟩, 11), (⟨"BlockTargetSession", "workSync", "(I)V"⟩, 11), (⟨"BlockTargetSession", "takeAtInitiator", "(LBlockTargetSession$Message;)V"⟩, 11), (⟨"BlockTargetSession", "requestsIn", "(I)I"⟩, 11)]
theorem lw_r1 : ∀ q ∈ lw_privs_1, lw_okq q := List.forall_mem_cons.mpr ⟨lw_p0, List.forall_mem_cons.mpr ⟨lw_p1, List.forall_mem_cons.mpr ⟨lw_p2, List.forall_mem_cons.mpr ⟨lw_p3, List.forall_mem_cons.mpr ⟨lw_p4, List.forall_mem_cons.mpr ⟨lw_p5, List.forall_mem_cons.mpr ⟨lw_p6, List.forall_mem_cons.mpr ⟨lw_p7, List.forall_mem_cons.mpr ⟨lw_p8, List.forall_mem_cons.mpr ⟨lw_p9, List.forall_mem_cons.mpr ⟨lw_p10, List.forall_mem_cons.mpr ⟨lw_p11, List.forall_mem_cons.mpr ⟨lw_p12, List.forall_mem_cons.mpr ⟨lw_p13, List.forall_mem_cons.mpr ⟨lw_p14, List.forall_mem_cons.mpr ⟨lw_p15, fun _ h => absurd h List.not_mem_nil⟩⟩⟩⟩⟩⟩⟩⟩⟩⟩⟩⟩⟩⟩⟩⟩
theorem lw_p16 : lw_okq (⟨"BlockTargetSessionModel", "outside", "(II)Z"⟩, 25) := ⟨⟨by decide +kernel, by decide +kernel⟩, List.mem_of_getElem? (i := 366) (by decide +kernel), List.mem_of_getElem? (i := 453) (by decide +kernel), List.mem_of_getElem? (i := 454) (by decide +kernel)⟩
theorem lw_p17 : lw_okq (⟨"BlockTargetSessionModel", "add", "(IIII)I"⟩, 25) := ⟨⟨by decide +kernel, by decide +kernel⟩, List.mem_of_getElem? (i := 366) (by decide +kernel), List.mem_of_getElem? (i := 457) (by decide +kernel), List.mem_of_getElem? (i := 458) (by decide +kernel)⟩
theorem lw_p18 : lw_okq (⟨"BlockTargetSessionModel", "blockAt", "(I)I"⟩, 25) := ⟨⟨by decide +kernel, by decide +kernel⟩, List.mem_of_getElem? (i := 366) (by decide +kernel), List.mem_of_getElem? (i := 473) (by decide +kernel), List.mem_of_getElem? (i := 474) (by decide +kernel)⟩
theorem lw_p19 : lw_okq (⟨"BlockTargetSessionModel", "number", "(I)I"⟩, 25) := ⟨⟨by decide +kernel, by decide +kernel⟩, List.mem_of_getElem? (i := 366) (by decide +kernel), List.mem_of_getElem? (i := 481) (by decide +kernel), List.mem_of_getElem? (i := 482) (by decide +kernel)⟩
theorem lw_p20 : lw_okq (⟨"BlockTargetSessionModel", "post", "(IIIII)V"⟩, 25) := ⟨⟨by decide +kernel, by decide +kernel⟩, List.mem_of_getElem? (i := 366) (by decide +kernel), List.mem_of_getElem? (i := 485) (by decide +kernel), List.mem_of_getElem? (i := 486) (by decide +kernel)⟩
theorem lw_p21 : lw_okq (⟨"BlockTargetSessionModel", "end", "()V"⟩, 25) := ⟨⟨by decide +kernel, by decide +kernel⟩, List.mem_of_getElem? (i := 366) (by decide +kernel), List.mem_of_getElem? (i := 493) (by decide +kernel), List.mem_of_getElem? (i := 494) (by decide +kernel)⟩
theorem lw_p22 : lw_okq (⟨"BlockTargetSessionModel", "work", "(III)V"⟩, 25) := ⟨⟨by decide +kernel, by decide +kernel⟩, List.mem_of_getElem? (i := 366) (by decide +kernel), List.mem_of_getElem? (i := 497) (by decide +kernel), List.mem_of_getElem? (i := 498) (by decide +kernel)⟩
theorem lw_p23 : lw_okq (⟨"BlockTargetSessionModel", "putAll", "(I)V"⟩, 25) := ⟨⟨by decide +kernel, by decide +kernel⟩, List.mem_of_getElem? (i := 366) (by decide +kernel), List.mem_of_getElem? (i := 501) (by decide +kernel), List.mem_of_getElem? (i := 502) (by decide +kernel)⟩
theorem lw_p24 : lw_okq (⟨"BlockTargetSessionModel", "put", "(II)V"⟩, 25) := ⟨⟨by decide +kernel, by decide +kernel⟩, List.mem_of_getElem? (i := 366) (by decide +kernel), List.mem_of_getElem? (i := 505) (by decide +kernel), List.mem_of_getElem? (i := 506) (by decide +kernel)⟩
theorem lw_p25 : lw_okq (⟨"BlockTargetSessionModel", "size", "()I"⟩, 25) := ⟨⟨by decide +kernel, by decide +kernel⟩, List.mem_of_getElem? (i := 366) (by decide +kernel), List.mem_of_getElem? (i := 509) (by decide +kernel), List.mem_of_getElem? (i := 510) (by decide +kernel)⟩
theorem lw_p26 : lw_okq (⟨"BlockTargetSessionModel", "finish", "(I)V"⟩, 25) := ⟨⟨by decide +kernel, by decide +kernel⟩, List.mem_of_getElem? (i := 366) (by decide +kernel), List.mem_of_getElem? (i := 514) (by decide +kernel), List.mem_of_getElem? (i := 515) (by decide +kernel)⟩
theorem lw_p27 : lw_okq (⟨"BlockTargetSessionModel", "valueOf", "(I)I"⟩, 25) := ⟨⟨by decide +kernel, by decide +kernel⟩, List.mem_of_getElem? (i := 366) (by decide +kernel), List.mem_of_getElem? (i := 518) (by decide +kernel), List.mem_of_getElem? (i := 519) (by decide +kernel)⟩
theorem lw_p28 : lw_okq (⟨"BlockTargetSessionModel", "take", "(IIIII)V"⟩, 25) := ⟨⟨by decide +kernel, by decide +kernel⟩, List.mem_of_getElem? (i := 366) (by decide +kernel), List.mem_of_getElem? (i := 522) (by decide +kernel), List.mem_of_getElem? (i := 523) (by decide +kernel)⟩
def lw_privs_2 : List (MethodName × Nat) := [(⟨"BlockTargetSessionModel", "outside", "(II)Z"⟩, 25), (⟨"BlockTargetSessionModel", "add", "(IIII)I"⟩, 25), (⟨"BlockTargetSessionModel", "blockAt", "(I)I"⟩, 25), (⟨"BlockTargetSessionModel", "number", "(I)I"⟩, 25), (⟨"BlockTargetSessionModel", "post", "(IIIII)V"⟩, 25), (⟨"BlockTargetSessionModel", "end", "()V"⟩, 25), (⟨"BlockTargetSessionModel", "work", "(III)V"⟩, 25), (⟨"BlockTargetSessionModel", "putAll", "(I)V"⟩, 25), (⟨"BlockTargetSessionModel", "put", "(II)V"⟩, 25), (⟨"BlockTargetSessionModel", "size", "()I"⟩, 25), (⟨"BlockTargetSessionModel", "finish", "(I)V"⟩, 25), (⟨"BlockTargetSessionModel", "valueOf", "(I)I"⟩, 25), (⟨"BlockTargetSessionModel", "take", "(IIIII)V"⟩, 25)]
theorem lw_r2 : ∀ q ∈ lw_privs_2, lw_okq q := List.forall_mem_cons.mpr ⟨lw_p16, List.forall_mem_cons.mpr ⟨lw_p17, List.forall_mem_cons.mpr ⟨lw_p18, List.forall_mem_cons.mpr ⟨lw_p19, List.forall_mem_cons.mpr ⟨lw_p20, List.forall_mem_cons.mpr ⟨lw_p21, List.forall_mem_cons.mpr ⟨lw_p22, List.forall_mem_cons.mpr ⟨lw_p23, List.forall_mem_cons.mpr ⟨lw_p24, List.forall_mem_cons.mpr ⟨lw_p25, List.forall_mem_cons.mpr ⟨lw_p26, List.forall_mem_cons.mpr ⟨lw_p27, List.forall_mem_cons.mpr ⟨lw_p28, fun _ h => absurd h List.not_mem_nil⟩⟩⟩⟩⟩⟩⟩⟩⟩⟩⟩⟩⟩
def lw_privs : List (MethodName × Nat) := lw_privs_1 ++ (lw_privs_2)
def lw_tbl : List Cond := k2_sels lw_privs ++ tables_1
theorem lw_privs_ok : ∀ q ∈ lw_privs, lw_okq q := by
  show ∀ q ∈ lw_privs_1 ++ (lw_privs_2), lw_okq q
  exact List.forall_mem_append.mpr ⟨lw_r1, lw_r2⟩
abbrev F_Ln : u_T := fun k => match k with
  | 0 => ("BlockTargetSession$Line", "slots", "[LBlockTargetSession$Message;", true)
  | _ => ("BlockTargetSession$Line", "size", "I", false)
abbrev t_Ln : Nat → FieldType := fun k => match k with
  | 0 => .array (.object "BlockTargetSession$Message")
  | _ => .int
theorem nm_Ln : ∀ a, a < 2 → ∀ b, b < 2 → a ≠ b → (F_Ln a).2.1 ≠ (F_Ln b).2.1 := by decide +kernel
theorem to_Ln : ∀ k, k < 2 → parseFieldDescriptor (F_Ln k).2.2.1 = some (t_Ln k) := by decide +kernel
abbrev F_Ms : u_T := fun k => match k with
  | 0 => ("BlockTargetSession$Message", "request", "I", false)
  | 1 => ("BlockTargetSession$Message", "kind", "I", false)
  | 2 => ("BlockTargetSession$Message", "number", "I", false)
  | 3 => ("BlockTargetSession$Message", "value", "I", false)
  | 4 => ("BlockTargetSession$Message", "carried", "I", false)
  | _ => ("BlockTargetSession$Message", "damaged", "Z", false)
abbrev t_Ms : Nat → FieldType := fun k => match k with
  | 0 => .int
  | 1 => .int
  | 2 => .int
  | 3 => .int
  | 4 => .int
  | _ => .boolean
theorem nm_Ms : ∀ a, a < 6 → ∀ b, b < 6 → a ≠ b → (F_Ms a).2.1 ≠ (F_Ms b).2.1 := by decide +kernel
theorem to_Ms : ∀ k, k < 6 → parseFieldDescriptor (F_Ms k).2.2.1 = some (t_Ms k) := by decide +kernel
abbrev F_Rq : u_T := fun k => match k with
  | 0 => ("BlockTargetSession$Request", "kind", "I", true)
  | 1 => ("BlockTargetSession$Request", "first", "I", true)
  | 2 => ("BlockTargetSession$Request", "count", "I", true)
  | 3 => ("BlockTargetSession$Request", "value", "I", true)
  | 4 => ("BlockTargetSession$Request", "results", "[I", true)
  | _ => ("BlockTargetSession$Request", "state", "I", false)
abbrev t_Rq : Nat → FieldType := fun k => match k with
  | 0 => .int
  | 1 => .int
  | 2 => .int
  | 3 => .int
  | 4 => .array .int
  | _ => .int
theorem nm_Rq : ∀ a, a < 6 → ∀ b, b < 6 → a ≠ b → (F_Rq a).2.1 ≠ (F_Rq b).2.1 := by decide +kernel
theorem to_Rq : ∀ k, k < 6 → parseFieldDescriptor (F_Rq k).2.2.1 = some (t_Rq k) := by decide +kernel
abbrev F_St : u_T := fun k => match k with
  | 0 => ("BlockTargetSession$Store", "room", "I", true)
  | 1 => ("BlockTargetSession$Store", "diskInts", "[I", true)
  | 2 => ("BlockTargetSession$Store", "cacheBlocks", "[I", true)
  | 3 => ("BlockTargetSession$Store", "cacheInts", "[I", true)
  | _ => ("BlockTargetSession$Store", "cacheSize", "I", false)
abbrev t_St : Nat → FieldType := fun k => match k with
  | 0 => .int
  | 1 => .array .int
  | 2 => .array .int
  | 3 => .array .int
  | _ => .int
theorem nm_St : ∀ a, a < 5 → ∀ b, b < 5 → a ≠ b → (F_St a).2.1 ≠ (F_St b).2.1 := by decide +kernel
theorem to_St : ∀ k, k < 5 → parseFieldDescriptor (F_St k).2.2.1 = some (t_St k) := by decide +kernel
abbrev F_Bs : u_T := fun k => match k with
  | 0 => ("BlockTargetSession", "window", "I", true)
  | 1 => ("BlockTargetSession", "store", "LBlockTargetSession$Store;", true)
  | 2 => ("BlockTargetSession", "requests", "[LBlockTargetSession$Request;", true)
  | 3 => ("BlockTargetSession", "requestCount", "I", false)
  | 4 => ("BlockTargetSession", "upLine", "LBlockTargetSession$Line;", true)
  | 5 => ("BlockTargetSession", "downLine", "LBlockTargetSession$Line;", true)
  | 6 => ("BlockTargetSession", "inSession", "Z", false)
  | 7 => ("BlockTargetSession", "sessions", "I", false)
  | 8 => ("BlockTargetSession", "sends", "I", false)
  | 9 => ("BlockTargetSession", "dones", "I", false)
  | _ => ("BlockTargetSession", "credit", "I", false)
abbrev t_Bs : Nat → FieldType := fun k => match k with
  | 0 => .int
  | 1 => .object "BlockTargetSession$Store"
  | 2 => .array (.object "BlockTargetSession$Request")
  | 3 => .int
  | 4 => .object "BlockTargetSession$Line"
  | 5 => .object "BlockTargetSession$Line"
  | 6 => .boolean
  | 7 => .int
  | 8 => .int
  | 9 => .int
  | _ => .int
theorem nm_Bs : ∀ a, a < 11 → ∀ b, b < 11 → a ≠ b → (F_Bs a).2.1 ≠ (F_Bs b).2.1 := by decide +kernel
theorem to_Bs : ∀ k, k < 11 → parseFieldDescriptor (F_Bs k).2.2.1 = some (t_Bs k) := by decide +kernel
abbrev F_Md : u_T := fun k => match k with
  | 0 => ("BlockTargetSessionModel", "window", "I", true)
  | 1 => ("BlockTargetSessionModel", "room", "I", true)
  | 2 => ("BlockTargetSessionModel", "disk", "[I", true)
  | 3 => ("BlockTargetSessionModel", "kept", "[I", true)
  | 4 => ("BlockTargetSessionModel", "stamp", "[I", true)
  | 5 => ("BlockTargetSessionModel", "clock", "I", false)
  | 6 => ("BlockTargetSessionModel", "kind", "[I", true)
  | 7 => ("BlockTargetSessionModel", "first", "[I", true)
  | 8 => ("BlockTargetSessionModel", "length", "[I", true)
  | 9 => ("BlockTargetSessionModel", "value", "[I", true)
  | 10 => ("BlockTargetSessionModel", "state", "[I", true)
  | 11 => ("BlockTargetSessionModel", "results", "[I", true)
  | 12 => ("BlockTargetSessionModel", "requests", "I", false)
  | 13 => ("BlockTargetSessionModel", "mRequest", "[I", true)
  | 14 => ("BlockTargetSessionModel", "mKind", "[I", true)
  | 15 => ("BlockTargetSessionModel", "mNumber", "[I", true)
  | 16 => ("BlockTargetSessionModel", "mValue", "[I", true)
  | 17 => ("BlockTargetSessionModel", "mCarried", "[I", true)
  | 18 => ("BlockTargetSessionModel", "mDamaged", "[Z", true)
  | 19 => ("BlockTargetSessionModel", "held", "[I", true)
  | 20 => ("BlockTargetSessionModel", "open", "Z", false)
  | 21 => ("BlockTargetSessionModel", "sends", "I", false)
  | 22 => ("BlockTargetSessionModel", "dones", "I", false)
  | 23 => ("BlockTargetSessionModel", "credit", "I", false)
  | _ => ("BlockTargetSessionModel", "sessions", "I", false)
abbrev t_Md : Nat → FieldType := fun k => match k with
  | 0 => .int
  | 1 => .int
  | 2 => .array .int
  | 3 => .array .int
  | 4 => .array .int
  | 5 => .int
  | 6 => .array .int
  | 7 => .array .int
  | 8 => .array .int
  | 9 => .array .int
  | 10 => .array .int
  | 11 => .array .int
  | 12 => .int
  | 13 => .array .int
  | 14 => .array .int
  | 15 => .array .int
  | 16 => .array .int
  | 17 => .array .int
  | 18 => .array .boolean
  | 19 => .array .int
  | 20 => .boolean
  | 21 => .int
  | 22 => .int
  | 23 => .int
  | _ => .int
theorem nm_Md : ∀ a, a < 25 → ∀ b, b < 25 → a ≠ b → (F_Md a).2.1 ≠ (F_Md b).2.1 := by decide +kernel
theorem to_Md : ∀ k, k < 25 → parseFieldDescriptor (F_Md k).2.2.1 = some (t_Md k) := by decide +kernel
abbrev cls : List vw_C := [("BlockTargetSession$Line", F_Ln, 2), ("BlockTargetSession$Message", F_Ms, 6), ("BlockTargetSession$Request", F_Rq, 6), ("BlockTargetSession$Store", F_St, 5), ("BlockTargetSession", F_Bs, 11), ("BlockTargetSessionModel", F_Md, 25)]
abbrev y_Bs_init : MethodName := ⟨"BlockTargetSession", "<init>", "(II)V"⟩
abbrev b_Bs_init : ByteArray := prog_1_method_1_code
abbrev y_Ln_init : MethodName := ⟨"BlockTargetSession$Line", "<init>", "(I)V"⟩
abbrev b_Ln_init : ByteArray := prog_2_method_1_code
abbrev y_Ms_init : MethodName := ⟨"BlockTargetSession$Message", "<init>", "()V"⟩
abbrev b_Ms_init : ByteArray := prog_3_method_1_code
abbrev y_Bs_clamp : MethodName := ⟨"BlockTargetSession", "clamp", "(III)I"⟩
abbrev b_Bs_clamp : ByteArray := prog_1_method_20_code
abbrev y_St_init : MethodName := ⟨"BlockTargetSession$Store", "<init>", "(I)V"⟩
abbrev b_St_init : ByteArray := prog_5_method_1_code
abbrev y_Bs_beginSession : MethodName := ⟨"BlockTargetSession", "beginSession", "()V"⟩
abbrev b_Bs_beginSession : ByteArray := prog_1_method_27_code
abbrev y_Bs_write : MethodName := ⟨"BlockTargetSession", "write", "(III)I"⟩
abbrev b_Bs_write : ByteArray := prog_1_method_2_code
abbrev y_Bs_isStretch : MethodName := ⟨"BlockTargetSession", "isStretch", "(II)Z"⟩
abbrev b_Bs_isStretch : ByteArray := prog_1_method_22_code
abbrev y_Bs_isBlock : MethodName := ⟨"BlockTargetSession", "isBlock", "(I)Z"⟩
abbrev b_Bs_isBlock : ByteArray := prog_1_method_21_code
abbrev y_Bs_addRequest : MethodName := ⟨"BlockTargetSession", "addRequest", "(IIII)I"⟩
abbrev b_Bs_addRequest : ByteArray := prog_1_method_23_code
abbrev y_Rq_init : MethodName := ⟨"BlockTargetSession$Request", "<init>", "(IIII)V"⟩
abbrev b_Rq_init : ByteArray := prog_4_method_1_code
abbrev y_Bs_read : MethodName := ⟨"BlockTargetSession", "read", "(II)I"⟩
abbrev b_Bs_read : ByteArray := prog_1_method_3_code
abbrev y_Bs_sync : MethodName := ⟨"BlockTargetSession", "sync", "()I"⟩
abbrev b_Bs_sync : ByteArray := prog_1_method_4_code
abbrev y_Bs_send : MethodName := ⟨"BlockTargetSession", "send", "()I"⟩
abbrev b_Bs_send : ByteArray := prog_1_method_5_code
abbrev y_Bs_firstOpenRequest : MethodName := ⟨"BlockTargetSession", "firstOpenRequest", "()I"⟩
abbrev b_Bs_firstOpenRequest : ByteArray := prog_1_method_25_code
abbrev y_Bs_sendUp : MethodName := ⟨"BlockTargetSession", "sendUp", "(III)V"⟩
abbrev b_Bs_sendUp : ByteArray := prog_1_method_30_code
abbrev y_Ln_putNewest : MethodName := ⟨"BlockTargetSession$Line", "putNewest", "()LBlockTargetSession$Message;"⟩
abbrev b_Ln_putNewest : ByteArray := prog_2_method_3_code
abbrev y_Ms_fill : MethodName := ⟨"BlockTargetSession$Message", "fill", "(IIIII)V"⟩
abbrev b_Ms_fill : ByteArray := prog_3_method_2_code
abbrev y_Bs_deliver : MethodName := ⟨"BlockTargetSession", "deliver", "(Z)I"⟩
abbrev b_Bs_deliver : ByteArray := prog_1_method_6_code
abbrev y_Bs_lineOf : MethodName := ⟨"BlockTargetSession", "lineOf", "(Z)LBlockTargetSession$Line;"⟩
abbrev b_Bs_lineOf : ByteArray := prog_1_method_29_code
abbrev y_Ln_takeOldest : MethodName := ⟨"BlockTargetSession$Line", "takeOldest", "()LBlockTargetSession$Message;"⟩
abbrev b_Ln_takeOldest : ByteArray := prog_2_method_4_code
abbrev y_Bs_breakSession : MethodName := ⟨"BlockTargetSession", "breakSession", "()V"⟩
abbrev b_Bs_breakSession : ByteArray := prog_1_method_28_code
abbrev y_Ln_clear : MethodName := ⟨"BlockTargetSession$Line", "clear", "()V"⟩
abbrev b_Ln_clear : ByteArray := prog_2_method_5_code
abbrev y_Rq_reopen : MethodName := ⟨"BlockTargetSession$Request", "reopen", "()V"⟩
abbrev b_Rq_reopen : ByteArray := prog_4_method_3_code
abbrev y_Ar_fill : MethodName := ⟨"java/util/Arrays", "fill", "([II)V"⟩
abbrev b_Ar_fill : ByteArray := prog_9_method_103_code
abbrev y_Bs_workAtTarget : MethodName := ⟨"BlockTargetSession", "workAtTarget", "(LBlockTargetSession$Message;)V"⟩
abbrev b_Bs_workAtTarget : ByteArray := prog_1_method_32_code
abbrev y_Bs_requestAt : MethodName := ⟨"BlockTargetSession", "requestAt", "(I)LBlockTargetSession$Request;"⟩
abbrev b_Bs_requestAt : ByteArray := prog_1_method_24_code
abbrev y_Bs_workPartOfWrite : MethodName := ⟨"BlockTargetSession", "workPartOfWrite", "(ILBlockTargetSession$Request;I)V"⟩
abbrev b_Bs_workPartOfWrite : ByteArray := prog_1_method_33_code
abbrev y_Bs_sendDown : MethodName := ⟨"BlockTargetSession", "sendDown", "(IIII)V"⟩
abbrev b_Bs_sendDown : ByteArray := prog_1_method_31_code
abbrev y_St_put : MethodName := ⟨"BlockTargetSession$Store", "put", "(II)V"⟩
abbrev b_St_put : ByteArray := prog_5_method_4_code
abbrev y_St_placeOf : MethodName := ⟨"BlockTargetSession$Store", "placeOf", "(I)I"⟩
abbrev b_St_placeOf : ByteArray := prog_5_method_8_code
abbrev y_St_writeBackFirst : MethodName := ⟨"BlockTargetSession$Store", "writeBackFirst", "()I"⟩
abbrev b_St_writeBackFirst : ByteArray := prog_5_method_5_code
abbrev y_Bs_finish : MethodName := ⟨"BlockTargetSession", "finish", "(I)V"⟩
abbrev b_Bs_finish : ByteArray := prog_1_method_36_code
abbrev y_Bs_workRead : MethodName := ⟨"BlockTargetSession", "workRead", "(ILBlockTargetSession$Request;)V"⟩
abbrev b_Bs_workRead : ByteArray := prog_1_method_34_code
abbrev y_St_presentInt : MethodName := ⟨"BlockTargetSession$Store", "presentInt", "(I)I"⟩
abbrev b_St_presentInt : ByteArray := prog_5_method_2_code
abbrev y_Bs_workSync : MethodName := ⟨"BlockTargetSession", "workSync", "(I)V"⟩
abbrev b_Bs_workSync : ByteArray := prog_1_method_35_code
abbrev y_St_writeBackAll : MethodName := ⟨"BlockTargetSession$Store", "writeBackAll", "()V"⟩
abbrev b_St_writeBackAll : ByteArray := prog_5_method_6_code
abbrev y_Bs_takeAtInitiator : MethodName := ⟨"BlockTargetSession", "takeAtInitiator", "(LBlockTargetSession$Message;)V"⟩
abbrev b_Bs_takeAtInitiator : ByteArray := prog_1_method_37_code
abbrev y_Rq_keepResult : MethodName := ⟨"BlockTargetSession$Request", "keepResult", "(II)V"⟩
abbrev b_Rq_keepResult : ByteArray := prog_4_method_2_code
abbrev y_Bs_damage : MethodName := ⟨"BlockTargetSession", "damage", "(ZI)I"⟩
abbrev b_Bs_damage : ByteArray := prog_1_method_7_code
abbrev y_Ln_messageAt : MethodName := ⟨"BlockTargetSession$Line", "messageAt", "(I)LBlockTargetSession$Message;"⟩
abbrev b_Ln_messageAt : ByteArray := prog_2_method_2_code
abbrev y_Bs_drop : MethodName := ⟨"BlockTargetSession", "drop", "()I"⟩
abbrev b_Bs_drop : ByteArray := prog_1_method_8_code
abbrev y_Bs_crash : MethodName := ⟨"BlockTargetSession", "crash", "()I"⟩
abbrev b_Bs_crash : ByteArray := prog_1_method_9_code
abbrev y_St_loseCache : MethodName := ⟨"BlockTargetSession$Store", "loseCache", "()V"⟩
abbrev b_St_loseCache : ByteArray := prog_5_method_7_code
abbrev y_Bs_login : MethodName := ⟨"BlockTargetSession", "login", "()I"⟩
abbrev b_Bs_login : ByteArray := prog_1_method_10_code
abbrev y_Bs_requestsIn : MethodName := ⟨"BlockTargetSession", "requestsIn", "(I)I"⟩
abbrev b_Bs_requestsIn : ByteArray := prog_1_method_26_code
abbrev y_Bs_flush : MethodName := ⟨"BlockTargetSession", "flush", "()I"⟩
abbrev b_Bs_flush : ByteArray := prog_1_method_11_code
abbrev y_Bs_state : MethodName := ⟨"BlockTargetSession", "state", "(I)I"⟩
abbrev b_Bs_state : ByteArray := prog_1_method_12_code
abbrev y_Bs_result : MethodName := ⟨"BlockTargetSession", "result", "(II)J"⟩
abbrev b_Bs_result : ByteArray := prog_1_method_13_code
abbrev y_Bs_present : MethodName := ⟨"BlockTargetSession", "present", "(I)J"⟩
abbrev b_Bs_present : ByteArray := prog_1_method_14_code
abbrev y_Bs_disk : MethodName := ⟨"BlockTargetSession", "disk", "(I)J"⟩
abbrev b_Bs_disk : ByteArray := prog_1_method_15_code
abbrev y_Bs_cached : MethodName := ⟨"BlockTargetSession", "cached", "(I)I"⟩
abbrev b_Bs_cached : ByteArray := prog_1_method_16_code
abbrev y_St_blockAt : MethodName := ⟨"BlockTargetSession$Store", "blockAt", "(I)I"⟩
abbrev b_St_blockAt : ByteArray := prog_5_method_3_code
abbrev y_Bs_message : MethodName := ⟨"BlockTargetSession", "message", "(ZII)I"⟩
abbrev b_Bs_message : ByteArray := prog_1_method_17_code
abbrev y_Bs_waiting : MethodName := ⟨"BlockTargetSession", "waiting", "(Z)I"⟩
abbrev b_Bs_waiting : ByteArray := prog_1_method_18_code
abbrev y_Bs_count : MethodName := ⟨"BlockTargetSession", "count", "(I)I"⟩
abbrev b_Bs_count : ByteArray := prog_1_method_19_code
abbrev y_Lw_cell : MethodName := ⟨"BlockTargetSessionLaw", "cell", "([II)I"⟩
abbrev b_Lw_cell : ByteArray := method_2_code
abbrev y_Md_init : MethodName := ⟨"BlockTargetSessionModel", "<init>", "(II)V"⟩
abbrev b_Md_init : ByteArray := prog_7_method_1_code
abbrev y_Md_write : MethodName := ⟨"BlockTargetSessionModel", "write", "(III)I"⟩
abbrev b_Md_write : ByteArray := prog_7_method_4_code
abbrev y_Md_outside : MethodName := ⟨"BlockTargetSessionModel", "outside", "(II)Z"⟩
abbrev b_Md_outside : ByteArray := prog_7_method_3_code
abbrev y_Md_add : MethodName := ⟨"BlockTargetSessionModel", "add", "(IIII)I"⟩
abbrev b_Md_add : ByteArray := prog_7_method_2_code
abbrev y_Md_read : MethodName := ⟨"BlockTargetSessionModel", "read", "(II)I"⟩
abbrev b_Md_read : ByteArray := prog_7_method_5_code
abbrev y_Md_sync : MethodName := ⟨"BlockTargetSessionModel", "sync", "()I"⟩
abbrev b_Md_sync : ByteArray := prog_7_method_6_code
abbrev y_Md_flush : MethodName := ⟨"BlockTargetSessionModel", "flush", "()I"⟩
abbrev b_Md_flush : ByteArray := prog_7_method_9_code
abbrev y_Md_blockAt : MethodName := ⟨"BlockTargetSessionModel", "blockAt", "(I)I"⟩
abbrev b_Md_blockAt : ByteArray := prog_7_method_8_code
abbrev y_Md_send : MethodName := ⟨"BlockTargetSessionModel", "send", "()I"⟩
abbrev b_Md_send : ByteArray := prog_7_method_13_code
abbrev y_Md_number : MethodName := ⟨"BlockTargetSessionModel", "number", "(I)I"⟩
abbrev b_Md_number : ByteArray := prog_7_method_12_code
abbrev y_Md_post : MethodName := ⟨"BlockTargetSessionModel", "post", "(IIIII)V"⟩
abbrev b_Md_post : ByteArray := prog_7_method_11_code
abbrev y_Md_deliver : MethodName := ⟨"BlockTargetSessionModel", "deliver", "(Z)I"⟩
abbrev b_Md_deliver : ByteArray := prog_7_method_19_code
abbrev y_Md_end : MethodName := ⟨"BlockTargetSessionModel", "end", "()V"⟩
abbrev b_Md_end : ByteArray := prog_7_method_18_code
abbrev y_Md_work : MethodName := ⟨"BlockTargetSessionModel", "work", "(III)V"⟩
abbrev b_Md_work : ByteArray := prog_7_method_16_code
abbrev y_Md_putAll : MethodName := ⟨"BlockTargetSessionModel", "putAll", "(I)V"⟩
abbrev b_Md_putAll : ByteArray := prog_7_method_15_code
abbrev y_Md_put : MethodName := ⟨"BlockTargetSessionModel", "put", "(II)V"⟩
abbrev b_Md_put : ByteArray := prog_7_method_10_code
abbrev y_Md_size : MethodName := ⟨"BlockTargetSessionModel", "size", "()I"⟩
abbrev b_Md_size : ByteArray := prog_7_method_7_code
abbrev y_Md_finish : MethodName := ⟨"BlockTargetSessionModel", "finish", "(I)V"⟩
abbrev b_Md_finish : ByteArray := prog_7_method_14_code
abbrev y_Md_valueOf : MethodName := ⟨"BlockTargetSessionModel", "valueOf", "(I)I"⟩
abbrev b_Md_valueOf : ByteArray := prog_7_method_26_code
abbrev y_Md_take : MethodName := ⟨"BlockTargetSessionModel", "take", "(IIIII)V"⟩
abbrev b_Md_take : ByteArray := prog_7_method_17_code
abbrev y_Md_damage : MethodName := ⟨"BlockTargetSessionModel", "damage", "(ZI)I"⟩
abbrev b_Md_damage : ByteArray := prog_7_method_20_code
abbrev y_Md_drop : MethodName := ⟨"BlockTargetSessionModel", "drop", "()I"⟩
abbrev b_Md_drop : ByteArray := prog_7_method_21_code
abbrev y_Md_crash : MethodName := ⟨"BlockTargetSessionModel", "crash", "()I"⟩
abbrev b_Md_crash : ByteArray := prog_7_method_22_code
abbrev y_Md_login : MethodName := ⟨"BlockTargetSessionModel", "login", "()I"⟩
abbrev b_Md_login : ByteArray := prog_7_method_23_code
abbrev y_Md_state : MethodName := ⟨"BlockTargetSessionModel", "state", "(I)I"⟩
abbrev b_Md_state : ByteArray := prog_7_method_24_code
abbrev y_Md_result : MethodName := ⟨"BlockTargetSessionModel", "result", "(II)J"⟩
abbrev b_Md_result : ByteArray := prog_7_method_25_code
abbrev y_Md_present : MethodName := ⟨"BlockTargetSessionModel", "present", "(I)J"⟩
abbrev b_Md_present : ByteArray := prog_7_method_27_code
abbrev y_Md_disk : MethodName := ⟨"BlockTargetSessionModel", "disk", "(I)J"⟩
abbrev b_Md_disk : ByteArray := prog_7_method_28_code
abbrev y_Md_cached : MethodName := ⟨"BlockTargetSessionModel", "cached", "(I)I"⟩
abbrev b_Md_cached : ByteArray := prog_7_method_29_code
abbrev y_Md_message : MethodName := ⟨"BlockTargetSessionModel", "message", "(ZII)I"⟩
abbrev b_Md_message : ByteArray := prog_7_method_30_code
abbrev y_Md_waiting : MethodName := ⟨"BlockTargetSessionModel", "waiting", "(Z)I"⟩
abbrev b_Md_waiting : ByteArray := prog_7_method_31_code
abbrev y_Md_count : MethodName := ⟨"BlockTargetSessionModel", "count", "(I)I"⟩
abbrev b_Md_count : ByteArray := prog_7_method_32_code
abbrev y_Lw_law : MethodName := ⟨"BlockTargetSessionLaw", "law", "([I)Z"⟩
abbrev b_Lw_law : ByteArray := code
/-- words that stay as the tables warm -/
def mov (w : Cond) : Bool := match w with
  | .arrayClass _ => true
  | .fieldLinkNest .. => true
  | .methodLinkNest .. => true
  | .arrayOver (.object _) => true
  | w => w.onTables && w.keeps
def TT : List Cond := lw_tbl.filter mov
theorem TT_mov : ∀ w ∈ TT, mov w = true := fun _ h => (List.mem_filter.mp h).2
theorem TT_of {w : Cond} (h : w ∈ tables_1) (hm : mov w = true) : w ∈ TT := List.mem_filter.mpr ⟨List.mem_append_right _ h, hm⟩
theorem TT_1 {w : Cond} (i : Nat) (h : tables_1_1[i]? = some w) (hm : mov w = true) : w ∈ TT := TT_of (List.mem_append_left _ (List.mem_of_getElem? h)) hm
theorem TT_2 {w : Cond} (i : Nat) (h : tables_1_2[i]? = some w) (hm : mov w = true) : w ∈ TT := TT_of (List.mem_append_right _ (List.mem_append_left _ (List.mem_of_getElem? h))) hm
theorem TT_3 {w : Cond} (i : Nat) (h : tables_1_3[i]? = some w) (hm : mov w = true) : w ∈ TT := TT_of (List.mem_append_right _ (List.mem_append_right _ (List.mem_of_getElem? h))) hm
theorem TT_p {w : Cond} (i : Nat) (h : (k2_sels lw_privs)[i]? = some w) (hm : mov w = true) : w ∈ TT := List.mem_filter.mpr ⟨List.mem_append_left _ (List.mem_of_getElem? h), hm⟩
theorem w_0 : Cond.initialized "BlockTargetSessionLaw" ∈ TT := TT_1 0 (by rfl) (by rfl)
theorem w_1 : Cond.initialized "BlockTargetSession" ∈ TT := TT_1 1 (by rfl) (by rfl)
theorem w_2 : Cond.initialized "BlockTargetSession$Line" ∈ TT := TT_1 2 (by rfl) (by rfl)
theorem w_3 : Cond.initialized "BlockTargetSession$Message" ∈ TT := TT_1 3 (by rfl) (by rfl)
theorem w_4 : Cond.initialized "java/lang/Math" ∈ TT := TT_1 4 (by rfl) (by rfl)
theorem w_5 : Cond.initialized "BlockTargetSession$Store" ∈ TT := TT_1 5 (by rfl) (by rfl)
theorem w_6 : Cond.initialized "BlockTargetSessionModel" ∈ TT := TT_1 6 (by rfl) (by rfl)
theorem w_7 : Cond.initialized "BlockTargetSession$Request" ∈ TT := TT_1 7 (by rfl) (by rfl)
theorem w_8 : Cond.initialized "java/util/Arrays" ∈ TT := TT_1 8 (by rfl) (by rfl)
theorem w_9 : Cond.classLink "BlockTargetSessionLaw" 7 "BlockTargetSession" ∈ TT := TT_1 9 (by rfl) (by rfl)
theorem w_10 : Cond.instantiable "BlockTargetSession" 11 ∈ TT := TT_1 10 (by rfl) (by rfl)
theorem w_11 : Cond.methodLink "BlockTargetSessionLaw" 15 y_Bs_init ∈ TT := TT_1 11 (by rfl) (by rfl)
theorem w_12 : Cond.instanceMethod y_Bs_init ∈ TT := TT_1 12 (by rfl) (by rfl)
theorem w_13 : Cond.code y_Bs_init b_Bs_init 3 none ∈ TT := TT_1 13 (by rfl) (by rfl)
theorem w_14 : Cond.methodLink "BlockTargetSession" 3 Lib.objectInit ∈ TT := TT_1 14 (by rfl) (by rfl)
theorem w_15 : Cond.instanceMethod Lib.objectInit ∈ TT := TT_1 15 (by rfl) (by rfl)
theorem w_16 : Cond.code Lib.objectInit ⟨#[0xb1]⟩ 1 none ∈ TT := TT_1 16 (by rfl) (by rfl)
theorem w_17 : Cond.classLink "BlockTargetSession" 9 "BlockTargetSession$Request" ∈ TT := TT_1 17 (by rfl) (by rfl)
theorem w_18 : Cond.arrayOver (.object "BlockTargetSession$Request") ∈ TT := TT_1 18 (by rfl) (by rfl)
theorem w_19 : Cond.classLink "BlockTargetSession" 19 "BlockTargetSession$Line" ∈ TT := TT_1 19 (by rfl) (by rfl)
theorem w_20 : Cond.instantiable "BlockTargetSession$Line" 2 ∈ TT := TT_1 20 (by rfl) (by rfl)
theorem w_21 : Cond.methodLink "BlockTargetSession" 21 y_Ln_init ∈ TT := TT_1 21 (by rfl) (by rfl)
theorem w_22 : Cond.instanceMethod y_Ln_init ∈ TT := TT_1 22 (by rfl) (by rfl)
theorem w_23 : Cond.code y_Ln_init b_Ln_init 3 none ∈ TT := TT_1 23 (by rfl) (by rfl)
theorem w_24 : Cond.methodLink "BlockTargetSession$Line" 1 Lib.objectInit ∈ TT := TT_1 24 (by rfl) (by rfl)
theorem w_25 : Cond.classLink "BlockTargetSession$Line" 13 "BlockTargetSession$Message" ∈ TT := TT_1 25 (by rfl) (by rfl)
theorem w_26 : Cond.arrayOver (.object "BlockTargetSession$Message") ∈ TT := TT_1 26 (by rfl) (by rfl)
theorem w_27 : Cond.instantiable "BlockTargetSession$Message" 6 ∈ TT := TT_1 27 (by rfl) (by rfl)
theorem w_28 : Cond.methodLinkNest "BlockTargetSession$Line" 19 y_Ms_init "BlockTargetSession" ∈ TT := TT_1 28 (by rfl) (by rfl)
theorem w_29 : Cond.instanceMethod y_Ms_init ∈ TT := TT_1 29 (by rfl) (by rfl)
theorem w_30 : Cond.code y_Ms_init b_Ms_init 1 none ∈ TT := TT_1 30 (by rfl) (by rfl)
theorem w_31 : Cond.methodLink "BlockTargetSession$Message" 3 Lib.objectInit ∈ TT := TT_1 31 (by rfl) (by rfl)
theorem w_32 : Cond.fieldLink "BlockTargetSession$Message" 9 "BlockTargetSession$Message" "request" "I" ∈ TT := TT_1 32 (by rfl) (by rfl)
theorem w_33 : Cond.fieldLink "BlockTargetSession" 150 "BlockTargetSession$Message" "request" "I" ∈ TT := TT_1 33 (by rfl) (by rfl)
theorem w_34 : Cond.fieldLink "BlockTargetSession$Message" 15 "BlockTargetSession$Message" "kind" "I" ∈ TT := TT_1 34 (by rfl) (by rfl)
theorem w_35 : Cond.fieldLink "BlockTargetSession" 106 "BlockTargetSession$Message" "kind" "I" ∈ TT := TT_1 35 (by rfl) (by rfl)
theorem w_36 : Cond.fieldLink "BlockTargetSession$Message" 18 "BlockTargetSession$Message" "number" "I" ∈ TT := TT_1 36 (by rfl) (by rfl)
theorem w_37 : Cond.fieldLink "BlockTargetSession" 153 "BlockTargetSession$Message" "number" "I" ∈ TT := TT_1 37 (by rfl) (by rfl)
theorem w_38 : Cond.fieldLink "BlockTargetSession$Message" 21 "BlockTargetSession$Message" "value" "I" ∈ TT := TT_1 38 (by rfl) (by rfl)
theorem w_39 : Cond.fieldLink "BlockTargetSession" 220 "BlockTargetSession$Message" "value" "I" ∈ TT := TT_1 39 (by rfl) (by rfl)
theorem w_40 : Cond.fieldLink "BlockTargetSession$Message" 24 "BlockTargetSession$Message" "carried" "I" ∈ TT := TT_1 40 (by rfl) (by rfl)
theorem w_41 : Cond.fieldLink "BlockTargetSession" 156 "BlockTargetSession$Message" "carried" "I" ∈ TT := TT_1 41 (by rfl) (by rfl)
theorem w_42 : Cond.fieldLink "BlockTargetSession$Message" 27 "BlockTargetSession$Message" "damaged" "Z" ∈ TT := TT_1 42 (by rfl) (by rfl)
theorem w_43 : Cond.fieldLink "BlockTargetSession" 91 "BlockTargetSession$Message" "damaged" "Z" ∈ TT := TT_1 43 (by rfl) (by rfl)
theorem w_57 : Cond.fieldLink "BlockTargetSession$Line" 15 "BlockTargetSession$Line" "slots" "[LBlockTargetSession$Message;" ∈ TT := TT_1 57 (by rfl) (by rfl)
theorem w_58 : Cond.fieldLink "BlockTargetSession$Line" 7 "BlockTargetSession$Line" "size" "I" ∈ TT := TT_1 58 (by rfl) (by rfl)
theorem w_59 : Cond.fieldLink "BlockTargetSession" 159 "BlockTargetSession$Line" "size" "I" ∈ TT := TT_1 59 (by rfl) (by rfl)
theorem w_65 : Cond.methodLink "BlockTargetSession" 47 y_Bs_clamp ∈ TT := TT_1 65 (by rfl) (by rfl)
theorem w_66 : Cond.static y_Bs_clamp ∈ TT := TT_1 66 (by rfl) (by rfl)
theorem w_67 : Cond.code y_Bs_clamp b_Bs_clamp 3 (some .int) ∈ TT := TT_1 67 (by rfl) (by rfl)
theorem w_68 : Cond.methodLink "BlockTargetSession" 165 Lib.Math.min.name ∈ TT := TT_1 68 (by rfl) (by rfl)
theorem w_69 : Cond.static Lib.Math.min.name ∈ TT := TT_1 69 (by rfl) (by rfl)
theorem w_70 : Cond.code Lib.Math.min.name Lib.Math.min.code 2 (some .int) ∈ TT := TT_1 70 (by rfl) (by rfl)
theorem w_71 : Cond.methodLink "BlockTargetSession" 171 Lib.Math.max.name ∈ TT := TT_1 71 (by rfl) (by rfl)
theorem w_72 : Cond.static Lib.Math.max.name ∈ TT := TT_1 72 (by rfl) (by rfl)
theorem w_73 : Cond.code Lib.Math.max.name Lib.Math.max.code 2 (some .int) ∈ TT := TT_1 73 (by rfl) (by rfl)
theorem w_74 : Cond.classLink "BlockTargetSession" 54 "BlockTargetSession$Store" ∈ TT := TT_1 74 (by rfl) (by rfl)
theorem w_75 : Cond.instantiable "BlockTargetSession$Store" 5 ∈ TT := TT_1 75 (by rfl) (by rfl)
theorem w_76 : Cond.methodLink "BlockTargetSession" 56 y_St_init ∈ TT := TT_1 76 (by rfl) (by rfl)
theorem w_77 : Cond.instanceMethod y_St_init ∈ TT := TT_1 77 (by rfl) (by rfl)
theorem w_78 : Cond.code y_St_init b_St_init 2 none ∈ TT := TT_1 78 (by rfl) (by rfl)
theorem w_79 : Cond.methodLink "BlockTargetSession$Store" 3 Lib.objectInit ∈ TT := TT_1 79 (by rfl) (by rfl)
theorem w_80 : Cond.fieldLink "BlockTargetSession$Store" 19 "BlockTargetSession$Store" "room" "I" ∈ TT := TT_1 80 (by rfl) (by rfl)
theorem w_81 : Cond.fieldLink "BlockTargetSession$Store" 9 "BlockTargetSession$Store" "diskInts" "[I" ∈ TT := TT_1 81 (by rfl) (by rfl)
theorem w_82 : Cond.fieldLink "BlockTargetSession" 144 "BlockTargetSession$Store" "diskInts" "[I" ∈ TT := TT_1 82 (by rfl) (by rfl)
theorem w_83 : Cond.fieldLink "BlockTargetSession$Store" 22 "BlockTargetSession$Store" "cacheBlocks" "[I" ∈ TT := TT_1 83 (by rfl) (by rfl)
theorem w_84 : Cond.fieldLink "BlockTargetSession$Store" 25 "BlockTargetSession$Store" "cacheInts" "[I" ∈ TT := TT_1 84 (by rfl) (by rfl)
theorem w_85 : Cond.fieldLink "BlockTargetSession$Store" 15 "BlockTargetSession$Store" "cacheSize" "I" ∈ TT := TT_1 85 (by rfl) (by rfl)
theorem w_86 : Cond.fieldLink "BlockTargetSession" 162 "BlockTargetSession$Store" "cacheSize" "I" ∈ TT := TT_1 86 (by rfl) (by rfl)
theorem w_98 : Cond.arrayClass .int ∈ TT := TT_1 98 (by rfl) (by rfl)
theorem w_99 : Cond.methodLink "BlockTargetSession" 61 y_Bs_beginSession ∈ TT := TT_1 99 (by rfl) (by rfl)
theorem w_101 : Cond.instanceMethod y_Bs_beginSession ∈ TT := TT_1 101 (by rfl) (by rfl)
theorem w_102 : Cond.code y_Bs_beginSession b_Bs_beginSession 1 none ∈ TT := TT_1 102 (by rfl) (by rfl)
theorem w_103 : Cond.fieldLink "BlockTargetSession" 51 "BlockTargetSession" "window" "I" ∈ TT := TT_1 103 (by rfl) (by rfl)
theorem w_104 : Cond.fieldLink "BlockTargetSession" 57 "BlockTargetSession" "store" "LBlockTargetSession$Store;" ∈ TT := TT_1 104 (by rfl) (by rfl)
theorem w_105 : Cond.fieldLink "BlockTargetSession" 11 "BlockTargetSession" "requests" "[LBlockTargetSession$Request;" ∈ TT := TT_1 105 (by rfl) (by rfl)
theorem w_106 : Cond.fieldLink "BlockTargetSession" 15 "BlockTargetSession" "requestCount" "I" ∈ TT := TT_1 106 (by rfl) (by rfl)
theorem w_107 : Cond.fieldLink "BlockTargetSession" 24 "BlockTargetSession" "upLine" "LBlockTargetSession$Line;" ∈ TT := TT_1 107 (by rfl) (by rfl)
theorem w_108 : Cond.fieldLink "BlockTargetSession" 28 "BlockTargetSession" "downLine" "LBlockTargetSession$Line;" ∈ TT := TT_1 108 (by rfl) (by rfl)
theorem w_109 : Cond.fieldLink "BlockTargetSession" 31 "BlockTargetSession" "inSession" "Z" ∈ TT := TT_1 109 (by rfl) (by rfl)
theorem w_110 : Cond.fieldLink "BlockTargetSession" 35 "BlockTargetSession" "sessions" "I" ∈ TT := TT_1 110 (by rfl) (by rfl)
theorem w_111 : Cond.fieldLink "BlockTargetSession" 38 "BlockTargetSession" "sends" "I" ∈ TT := TT_1 111 (by rfl) (by rfl)
theorem w_112 : Cond.fieldLink "BlockTargetSession" 41 "BlockTargetSession" "dones" "I" ∈ TT := TT_1 112 (by rfl) (by rfl)
theorem w_113 : Cond.fieldLink "BlockTargetSession" 44 "BlockTargetSession" "credit" "I" ∈ TT := TT_1 113 (by rfl) (by rfl)
theorem w_137 : Cond.methodLink "BlockTargetSessionLaw" 21 y_Bs_write ∈ TT := TT_1 137 (by rfl) (by rfl)
theorem w_138 : Cond.instanceMethod y_Bs_write ∈ TT := TT_1 138 (by rfl) (by rfl)
theorem w_139 : Cond.selects "BlockTargetSession" y_Bs_write y_Bs_write ∈ TT := TT_1 139 (by rfl) (by rfl)
theorem w_140 : Cond.code y_Bs_write b_Bs_write 4 (some .int) ∈ TT := TT_1 140 (by rfl) (by rfl)
theorem w_141 : Cond.methodLink "BlockTargetSession" 64 y_Bs_isStretch ∈ TT := TT_1 141 (by rfl) (by rfl)
theorem w_142 : Cond.static y_Bs_isStretch ∈ TT := TT_1 142 (by rfl) (by rfl)
theorem w_143 : Cond.code y_Bs_isStretch b_Bs_isStretch 2 (some .boolean) ∈ TT := TT_1 143 (by rfl) (by rfl)
theorem w_144 : Cond.methodLink "BlockTargetSession" 137 y_Bs_isBlock ∈ TT := TT_1 144 (by rfl) (by rfl)
theorem w_145 : Cond.static y_Bs_isBlock ∈ TT := TT_1 145 (by rfl) (by rfl)
theorem w_146 : Cond.code y_Bs_isBlock b_Bs_isBlock 1 (some .boolean) ∈ TT := TT_1 146 (by rfl) (by rfl)
theorem w_147 : Cond.methodLink "BlockTargetSession" 68 y_Bs_addRequest ∈ TT := TT_1 147 (by rfl) (by rfl)
theorem w_149 : Cond.instanceMethod y_Bs_addRequest ∈ TT := TT_1 149 (by rfl) (by rfl)
theorem w_150 : Cond.code y_Bs_addRequest b_Bs_addRequest 6 (some .int) ∈ TT := TT_1 150 (by rfl) (by rfl)
theorem w_151 : Cond.instantiable "BlockTargetSession$Request" 6 ∈ TT := TT_1 151 (by rfl) (by rfl)
theorem w_152 : Cond.methodLink "BlockTargetSession" 174 y_Rq_init ∈ TT := TT_1 152 (by rfl) (by rfl)
theorem w_153 : Cond.instanceMethod y_Rq_init ∈ TT := TT_1 153 (by rfl) (by rfl)
theorem w_154 : Cond.code y_Rq_init b_Rq_init 5 none ∈ TT := TT_1 154 (by rfl) (by rfl)
theorem w_155 : Cond.methodLink "BlockTargetSession$Request" 3 Lib.objectInit ∈ TT := TT_1 155 (by rfl) (by rfl)
theorem w_156 : Cond.fieldLink "BlockTargetSession$Request" 15 "BlockTargetSession$Request" "kind" "I" ∈ TT := TT_1 156 (by rfl) (by rfl)
theorem w_157 : Cond.fieldLink "BlockTargetSession" 127 "BlockTargetSession$Request" "kind" "I" ∈ TT := TT_1 157 (by rfl) (by rfl)
theorem w_158 : Cond.fieldLink "BlockTargetSession$Request" 18 "BlockTargetSession$Request" "first" "I" ∈ TT := TT_1 158 (by rfl) (by rfl)
theorem w_159 : Cond.fieldLink "BlockTargetSession" 204 "BlockTargetSession$Request" "first" "I" ∈ TT := TT_1 159 (by rfl) (by rfl)
theorem w_160 : Cond.fieldLink "BlockTargetSession$Request" 21 "BlockTargetSession$Request" "count" "I" ∈ TT := TT_1 160 (by rfl) (by rfl)
theorem w_161 : Cond.fieldLink "BlockTargetSession" 130 "BlockTargetSession$Request" "count" "I" ∈ TT := TT_1 161 (by rfl) (by rfl)
theorem w_162 : Cond.fieldLink "BlockTargetSession$Request" 24 "BlockTargetSession$Request" "value" "I" ∈ TT := TT_1 162 (by rfl) (by rfl)
theorem w_163 : Cond.fieldLink "BlockTargetSession" 207 "BlockTargetSession$Request" "value" "I" ∈ TT := TT_1 163 (by rfl) (by rfl)
theorem w_164 : Cond.fieldLink "BlockTargetSession$Request" 27 "BlockTargetSession$Request" "results" "[I" ∈ TT := TT_1 164 (by rfl) (by rfl)
theorem w_165 : Cond.fieldLink "BlockTargetSession" 133 "BlockTargetSession$Request" "results" "[I" ∈ TT := TT_1 165 (by rfl) (by rfl)
theorem w_166 : Cond.fieldLink "BlockTargetSession$Request" 9 "BlockTargetSession$Request" "state" "I" ∈ TT := TT_1 166 (by rfl) (by rfl)
theorem w_167 : Cond.fieldLink "BlockTargetSession" 76 "BlockTargetSession$Request" "state" "I" ∈ TT := TT_1 167 (by rfl) (by rfl)
theorem w_181 : Cond.methodLink "BlockTargetSessionLaw" 26 y_Bs_read ∈ TT := TT_1 181 (by rfl) (by rfl)
theorem w_182 : Cond.instanceMethod y_Bs_read ∈ TT := TT_1 182 (by rfl) (by rfl)
theorem w_183 : Cond.selects "BlockTargetSession" y_Bs_read y_Bs_read ∈ TT := TT_1 183 (by rfl) (by rfl)
theorem w_184 : Cond.code y_Bs_read b_Bs_read 3 (some .int) ∈ TT := TT_1 184 (by rfl) (by rfl)
theorem w_185 : Cond.methodLink "BlockTargetSessionLaw" 31 y_Bs_sync ∈ TT := TT_1 185 (by rfl) (by rfl)
theorem w_186 : Cond.instanceMethod y_Bs_sync ∈ TT := TT_1 186 (by rfl) (by rfl)
theorem w_187 : Cond.selects "BlockTargetSession" y_Bs_sync y_Bs_sync ∈ TT := TT_1 187 (by rfl) (by rfl)
theorem w_188 : Cond.code y_Bs_sync b_Bs_sync 1 (some .int) ∈ TT := TT_1 188 (by rfl) (by rfl)
theorem w_189 : Cond.methodLink "BlockTargetSessionLaw" 36 y_Bs_send ∈ TT := TT_1 189 (by rfl) (by rfl)
theorem w_190 : Cond.instanceMethod y_Bs_send ∈ TT := TT_1 190 (by rfl) (by rfl)
theorem w_191 : Cond.selects "BlockTargetSession" y_Bs_send y_Bs_send ∈ TT := TT_1 191 (by rfl) (by rfl)
theorem w_192 : Cond.code y_Bs_send b_Bs_send 2 (some .int) ∈ TT := TT_1 192 (by rfl) (by rfl)
theorem w_193 : Cond.methodLink "BlockTargetSession" 72 y_Bs_firstOpenRequest ∈ TT := TT_1 193 (by rfl) (by rfl)
theorem w_195 : Cond.instanceMethod y_Bs_firstOpenRequest ∈ TT := TT_1 195 (by rfl) (by rfl)
theorem w_196 : Cond.code y_Bs_firstOpenRequest b_Bs_firstOpenRequest 2 (some .int) ∈ TT := TT_1 196 (by rfl) (by rfl)
theorem w_197 : Cond.methodLink "BlockTargetSession" 79 y_Bs_sendUp ∈ TT := TT_1 197 (by rfl) (by rfl)
theorem w_199 : Cond.instanceMethod y_Bs_sendUp ∈ TT := TT_1 199 (by rfl) (by rfl)
theorem w_200 : Cond.code y_Bs_sendUp b_Bs_sendUp 5 none ∈ TT := TT_1 200 (by rfl) (by rfl)
theorem w_201 : Cond.methodLink "BlockTargetSession" 183 y_Ln_putNewest ∈ TT := TT_1 201 (by rfl) (by rfl)
theorem w_202 : Cond.instanceMethod y_Ln_putNewest ∈ TT := TT_1 202 (by rfl) (by rfl)
theorem w_203 : Cond.selects "BlockTargetSession$Line" y_Ln_putNewest y_Ln_putNewest ∈ TT := TT_1 203 (by rfl) (by rfl)
theorem w_204 : Cond.code y_Ln_putNewest b_Ln_putNewest 1 (some (.object "BlockTargetSession$Message")) ∈ TT := TT_1 204 (by rfl) (by rfl)
theorem w_205 : Cond.methodLink "BlockTargetSession" 186 y_Ms_fill ∈ TT := TT_1 205 (by rfl) (by rfl)
theorem w_206 : Cond.instanceMethod y_Ms_fill ∈ TT := TT_1 206 (by rfl) (by rfl)
theorem w_207 : Cond.selects "BlockTargetSession$Message" y_Ms_fill y_Ms_fill ∈ TT := TT_1 207 (by rfl) (by rfl)
theorem w_208 : Cond.code y_Ms_fill b_Ms_fill 6 none ∈ TT := TT_1 208 (by rfl) (by rfl)
theorem w_209 : Cond.methodLink "BlockTargetSessionLaw" 40 y_Bs_deliver ∈ TT := TT_1 209 (by rfl) (by rfl)
theorem w_210 : Cond.instanceMethod y_Bs_deliver ∈ TT := TT_1 210 (by rfl) (by rfl)
theorem w_211 : Cond.selects "BlockTargetSession" y_Bs_deliver y_Bs_deliver ∈ TT := TT_1 211 (by rfl) (by rfl)
theorem w_212 : Cond.code y_Bs_deliver b_Bs_deliver 3 (some .int) ∈ TT := TT_1 212 (by rfl) (by rfl)
theorem w_213 : Cond.methodLink "BlockTargetSession" 83 y_Bs_lineOf ∈ TT := TT_1 213 (by rfl) (by rfl)
theorem w_215 : Cond.instanceMethod y_Bs_lineOf ∈ TT := TT_1 215 (by rfl) (by rfl)
theorem w_216 : Cond.code y_Bs_lineOf b_Bs_lineOf 2 (some (.object "BlockTargetSession$Line")) ∈ TT := TT_1 216 (by rfl) (by rfl)
theorem w_217 : Cond.methodLink "BlockTargetSession" 87 y_Ln_takeOldest ∈ TT := TT_1 217 (by rfl) (by rfl)
theorem w_218 : Cond.instanceMethod y_Ln_takeOldest ∈ TT := TT_1 218 (by rfl) (by rfl)
theorem w_219 : Cond.selects "BlockTargetSession$Line" y_Ln_takeOldest y_Ln_takeOldest ∈ TT := TT_1 219 (by rfl) (by rfl)
theorem w_220 : Cond.code y_Ln_takeOldest b_Ln_takeOldest 3 (some (.object "BlockTargetSession$Message")) ∈ TT := TT_1 220 (by rfl) (by rfl)
theorem w_221 : Cond.methodLink "BlockTargetSession" 96 y_Bs_breakSession ∈ TT := TT_1 221 (by rfl) (by rfl)
theorem w_223 : Cond.instanceMethod y_Bs_breakSession ∈ TT := TT_1 223 (by rfl) (by rfl)
theorem w_224 : Cond.code y_Bs_breakSession b_Bs_breakSession 2 none ∈ TT := TT_1 224 (by rfl) (by rfl)
theorem w_225 : Cond.methodLink "BlockTargetSession" 177 y_Ln_clear ∈ TT := TT_1 225 (by rfl) (by rfl)
theorem w_226 : Cond.instanceMethod y_Ln_clear ∈ TT := TT_1 226 (by rfl) (by rfl)
theorem w_227 : Cond.selects "BlockTargetSession$Line" y_Ln_clear y_Ln_clear ∈ TT := TT_1 227 (by rfl) (by rfl)
theorem w_228 : Cond.code y_Ln_clear b_Ln_clear 1 none ∈ TT := TT_1 228 (by rfl) (by rfl)
theorem w_229 : Cond.methodLink "BlockTargetSession" 180 y_Rq_reopen ∈ TT := TT_1 229 (by rfl) (by rfl)
theorem w_230 : Cond.instanceMethod y_Rq_reopen ∈ TT := TT_1 230 (by rfl) (by rfl)
theorem w_231 : Cond.selects "BlockTargetSession$Request" y_Rq_reopen y_Rq_reopen ∈ TT := TT_1 231 (by rfl) (by rfl)
theorem w_232 : Cond.code y_Rq_reopen b_Rq_reopen 1 none ∈ TT := TT_1 232 (by rfl) (by rfl)
theorem w_233 : Cond.methodLink "BlockTargetSession$Request" 31 y_Ar_fill ∈ TT := TT_1 233 (by rfl) (by rfl)
theorem w_234 : Cond.static y_Ar_fill ∈ TT := TT_1 234 (by rfl) (by rfl)
theorem w_235 : Cond.code y_Ar_fill b_Ar_fill 4 none ∈ TT := TT_1 235 (by rfl) (by rfl)
theorem w_236 : Cond.methodLink "BlockTargetSession" 99 y_Bs_workAtTarget ∈ TT := TT_1 236 (by rfl) (by rfl)
theorem w_238 : Cond.instanceMethod y_Bs_workAtTarget ∈ TT := TT_1 238 (by rfl) (by rfl)
theorem w_239 : Cond.code y_Bs_workAtTarget b_Bs_workAtTarget 3 none ∈ TT := TT_1 239 (by rfl) (by rfl)
theorem w_240 : Cond.methodLink "BlockTargetSession" 123 y_Bs_requestAt ∈ TT := TT_2 0 (by rfl) (by rfl)
theorem w_242 : Cond.instanceMethod y_Bs_requestAt ∈ TT := TT_2 2 (by rfl) (by rfl)
theorem w_243 : Cond.code y_Bs_requestAt b_Bs_requestAt 2 (some (.object "BlockTargetSession$Request")) ∈ TT := TT_2 3 (by rfl) (by rfl)
theorem w_244 : Cond.methodLink "BlockTargetSession" 190 y_Bs_workPartOfWrite ∈ TT := TT_2 4 (by rfl) (by rfl)
theorem w_246 : Cond.instanceMethod y_Bs_workPartOfWrite ∈ TT := TT_2 6 (by rfl) (by rfl)
theorem w_247 : Cond.code y_Bs_workPartOfWrite b_Bs_workPartOfWrite 5 none ∈ TT := TT_2 7 (by rfl) (by rfl)
theorem w_248 : Cond.methodLink "BlockTargetSession" 201 y_Bs_sendDown ∈ TT := TT_2 8 (by rfl) (by rfl)
theorem w_250 : Cond.instanceMethod y_Bs_sendDown ∈ TT := TT_2 10 (by rfl) (by rfl)
theorem w_251 : Cond.code y_Bs_sendDown b_Bs_sendDown 6 none ∈ TT := TT_2 11 (by rfl) (by rfl)
theorem w_252 : Cond.methodLink "BlockTargetSession" 210 y_St_put ∈ TT := TT_2 12 (by rfl) (by rfl)
theorem w_253 : Cond.instanceMethod y_St_put ∈ TT := TT_2 13 (by rfl) (by rfl)
theorem w_254 : Cond.selects "BlockTargetSession$Store" y_St_put y_St_put ∈ TT := TT_2 14 (by rfl) (by rfl)
theorem w_255 : Cond.code y_St_put b_St_put 4 none ∈ TT := TT_2 15 (by rfl) (by rfl)
theorem w_256 : Cond.methodLink "BlockTargetSession$Store" 28 y_St_placeOf ∈ TT := TT_2 16 (by rfl) (by rfl)
theorem w_258 : Cond.instanceMethod y_St_placeOf ∈ TT := TT_2 18 (by rfl) (by rfl)
theorem w_259 : Cond.code y_St_placeOf b_St_placeOf 3 (some .int) ∈ TT := TT_2 19 (by rfl) (by rfl)
theorem w_260 : Cond.methodLink "BlockTargetSession$Store" 32 y_St_writeBackFirst ∈ TT := TT_2 20 (by rfl) (by rfl)
theorem w_261 : Cond.instanceMethod y_St_writeBackFirst ∈ TT := TT_2 21 (by rfl) (by rfl)
theorem w_262 : Cond.selects "BlockTargetSession$Store" y_St_writeBackFirst y_St_writeBackFirst ∈ TT := TT_2 22 (by rfl) (by rfl)
theorem w_263 : Cond.code y_St_writeBackFirst b_St_writeBackFirst 3 (some .int) ∈ TT := TT_2 23 (by rfl) (by rfl)
theorem w_264 : Cond.methodLink "BlockTargetSession" 214 y_Bs_finish ∈ TT := TT_2 24 (by rfl) (by rfl)
theorem w_266 : Cond.instanceMethod y_Bs_finish ∈ TT := TT_2 26 (by rfl) (by rfl)
theorem w_267 : Cond.code y_Bs_finish b_Bs_finish 2 none ∈ TT := TT_2 27 (by rfl) (by rfl)
theorem w_268 : Cond.methodLink "BlockTargetSession" 194 y_Bs_workRead ∈ TT := TT_2 28 (by rfl) (by rfl)
theorem w_270 : Cond.instanceMethod y_Bs_workRead ∈ TT := TT_2 30 (by rfl) (by rfl)
theorem w_271 : Cond.code y_Bs_workRead b_Bs_workRead 4 none ∈ TT := TT_2 31 (by rfl) (by rfl)
theorem w_272 : Cond.methodLink "BlockTargetSession" 141 y_St_presentInt ∈ TT := TT_2 32 (by rfl) (by rfl)
theorem w_273 : Cond.instanceMethod y_St_presentInt ∈ TT := TT_2 33 (by rfl) (by rfl)
theorem w_274 : Cond.selects "BlockTargetSession$Store" y_St_presentInt y_St_presentInt ∈ TT := TT_2 34 (by rfl) (by rfl)
theorem w_275 : Cond.code y_St_presentInt b_St_presentInt 3 (some .int) ∈ TT := TT_2 35 (by rfl) (by rfl)
theorem w_276 : Cond.methodLink "BlockTargetSession" 198 y_Bs_workSync ∈ TT := TT_2 36 (by rfl) (by rfl)
theorem w_278 : Cond.instanceMethod y_Bs_workSync ∈ TT := TT_2 38 (by rfl) (by rfl)
theorem w_279 : Cond.code y_Bs_workSync b_Bs_workSync 2 none ∈ TT := TT_2 39 (by rfl) (by rfl)
theorem w_280 : Cond.methodLink "BlockTargetSession" 217 y_St_writeBackAll ∈ TT := TT_2 40 (by rfl) (by rfl)
theorem w_281 : Cond.instanceMethod y_St_writeBackAll ∈ TT := TT_2 41 (by rfl) (by rfl)
theorem w_282 : Cond.selects "BlockTargetSession$Store" y_St_writeBackAll y_St_writeBackAll ∈ TT := TT_2 42 (by rfl) (by rfl)
theorem w_283 : Cond.code y_St_writeBackAll b_St_writeBackAll 2 none ∈ TT := TT_2 43 (by rfl) (by rfl)
theorem w_284 : Cond.methodLink "BlockTargetSession" 103 y_Bs_takeAtInitiator ∈ TT := TT_2 44 (by rfl) (by rfl)
theorem w_286 : Cond.instanceMethod y_Bs_takeAtInitiator ∈ TT := TT_2 46 (by rfl) (by rfl)
theorem w_287 : Cond.code y_Bs_takeAtInitiator b_Bs_takeAtInitiator 3 none ∈ TT := TT_2 47 (by rfl) (by rfl)
theorem w_288 : Cond.methodLink "BlockTargetSession" 221 y_Rq_keepResult ∈ TT := TT_2 48 (by rfl) (by rfl)
theorem w_289 : Cond.instanceMethod y_Rq_keepResult ∈ TT := TT_2 49 (by rfl) (by rfl)
theorem w_290 : Cond.selects "BlockTargetSession$Request" y_Rq_keepResult y_Rq_keepResult ∈ TT := TT_2 50 (by rfl) (by rfl)
theorem w_291 : Cond.code y_Rq_keepResult b_Rq_keepResult 3 none ∈ TT := TT_2 51 (by rfl) (by rfl)
theorem w_292 : Cond.methodLink "BlockTargetSessionLaw" 45 y_Bs_damage ∈ TT := TT_2 52 (by rfl) (by rfl)
theorem w_293 : Cond.instanceMethod y_Bs_damage ∈ TT := TT_2 53 (by rfl) (by rfl)
theorem w_294 : Cond.selects "BlockTargetSession" y_Bs_damage y_Bs_damage ∈ TT := TT_2 54 (by rfl) (by rfl)
theorem w_295 : Cond.code y_Bs_damage b_Bs_damage 4 (some .int) ∈ TT := TT_2 55 (by rfl) (by rfl)
theorem w_296 : Cond.methodLink "BlockTargetSession" 109 y_Ln_messageAt ∈ TT := TT_2 56 (by rfl) (by rfl)
theorem w_297 : Cond.instanceMethod y_Ln_messageAt ∈ TT := TT_2 57 (by rfl) (by rfl)
theorem w_298 : Cond.selects "BlockTargetSession$Line" y_Ln_messageAt y_Ln_messageAt ∈ TT := TT_2 58 (by rfl) (by rfl)
theorem w_299 : Cond.code y_Ln_messageAt b_Ln_messageAt 2 (some (.object "BlockTargetSession$Message")) ∈ TT := TT_2 59 (by rfl) (by rfl)
theorem w_300 : Cond.methodLink "BlockTargetSessionLaw" 50 y_Bs_drop ∈ TT := TT_2 60 (by rfl) (by rfl)
theorem w_301 : Cond.instanceMethod y_Bs_drop ∈ TT := TT_2 61 (by rfl) (by rfl)
theorem w_302 : Cond.selects "BlockTargetSession" y_Bs_drop y_Bs_drop ∈ TT := TT_2 62 (by rfl) (by rfl)
theorem w_303 : Cond.code y_Bs_drop b_Bs_drop 1 (some .int) ∈ TT := TT_2 63 (by rfl) (by rfl)
theorem w_304 : Cond.methodLink "BlockTargetSessionLaw" 54 y_Bs_crash ∈ TT := TT_2 64 (by rfl) (by rfl)
theorem w_305 : Cond.instanceMethod y_Bs_crash ∈ TT := TT_2 65 (by rfl) (by rfl)
theorem w_306 : Cond.selects "BlockTargetSession" y_Bs_crash y_Bs_crash ∈ TT := TT_2 66 (by rfl) (by rfl)
theorem w_307 : Cond.code y_Bs_crash b_Bs_crash 1 (some .int) ∈ TT := TT_2 67 (by rfl) (by rfl)
theorem w_308 : Cond.methodLink "BlockTargetSession" 113 y_St_loseCache ∈ TT := TT_2 68 (by rfl) (by rfl)
theorem w_309 : Cond.instanceMethod y_St_loseCache ∈ TT := TT_2 69 (by rfl) (by rfl)
theorem w_310 : Cond.selects "BlockTargetSession$Store" y_St_loseCache y_St_loseCache ∈ TT := TT_2 70 (by rfl) (by rfl)
theorem w_311 : Cond.code y_St_loseCache b_St_loseCache 1 none ∈ TT := TT_2 71 (by rfl) (by rfl)
theorem w_312 : Cond.methodLink "BlockTargetSessionLaw" 58 y_Bs_login ∈ TT := TT_2 72 (by rfl) (by rfl)
theorem w_313 : Cond.instanceMethod y_Bs_login ∈ TT := TT_2 73 (by rfl) (by rfl)
theorem w_314 : Cond.selects "BlockTargetSession" y_Bs_login y_Bs_login ∈ TT := TT_2 74 (by rfl) (by rfl)
theorem w_315 : Cond.code y_Bs_login b_Bs_login 1 (some .int) ∈ TT := TT_2 75 (by rfl) (by rfl)
theorem w_316 : Cond.methodLink "BlockTargetSession" 116 y_Bs_requestsIn ∈ TT := TT_2 76 (by rfl) (by rfl)
theorem w_318 : Cond.instanceMethod y_Bs_requestsIn ∈ TT := TT_2 78 (by rfl) (by rfl)
theorem w_319 : Cond.code y_Bs_requestsIn b_Bs_requestsIn 4 (some .int) ∈ TT := TT_2 79 (by rfl) (by rfl)
theorem w_320 : Cond.methodLink "BlockTargetSessionLaw" 62 y_Bs_flush ∈ TT := TT_2 80 (by rfl) (by rfl)
theorem w_321 : Cond.instanceMethod y_Bs_flush ∈ TT := TT_2 81 (by rfl) (by rfl)
theorem w_322 : Cond.selects "BlockTargetSession" y_Bs_flush y_Bs_flush ∈ TT := TT_2 82 (by rfl) (by rfl)
theorem w_323 : Cond.code y_Bs_flush b_Bs_flush 1 (some .int) ∈ TT := TT_2 83 (by rfl) (by rfl)
theorem w_324 : Cond.methodLink "BlockTargetSession" 120 y_St_writeBackFirst ∈ TT := TT_2 84 (by rfl) (by rfl)
theorem w_325 : Cond.methodLink "BlockTargetSessionLaw" 66 y_Bs_state ∈ TT := TT_2 85 (by rfl) (by rfl)
theorem w_326 : Cond.instanceMethod y_Bs_state ∈ TT := TT_2 86 (by rfl) (by rfl)
theorem w_327 : Cond.selects "BlockTargetSession" y_Bs_state y_Bs_state ∈ TT := TT_2 87 (by rfl) (by rfl)
theorem w_328 : Cond.code y_Bs_state b_Bs_state 3 (some .int) ∈ TT := TT_2 88 (by rfl) (by rfl)
theorem w_329 : Cond.methodLink "BlockTargetSessionLaw" 71 y_Bs_result ∈ TT := TT_2 89 (by rfl) (by rfl)
theorem w_330 : Cond.instanceMethod y_Bs_result ∈ TT := TT_2 90 (by rfl) (by rfl)
theorem w_331 : Cond.selects "BlockTargetSession" y_Bs_result y_Bs_result ∈ TT := TT_2 91 (by rfl) (by rfl)
theorem w_332 : Cond.code y_Bs_result b_Bs_result 4 (some .long) ∈ TT := TT_2 92 (by rfl) (by rfl)
theorem w_333 : Cond.constantLong "BlockTargetSession" 128 (-1000000000000) ∈ TT := TT_2 93 (by rfl) (by rfl)
theorem w_334 : Cond.methodLink "BlockTargetSessionLaw" 76 y_Bs_present ∈ TT := TT_2 94 (by rfl) (by rfl)
theorem w_335 : Cond.instanceMethod y_Bs_present ∈ TT := TT_2 95 (by rfl) (by rfl)
theorem w_336 : Cond.selects "BlockTargetSession" y_Bs_present y_Bs_present ∈ TT := TT_2 96 (by rfl) (by rfl)
theorem w_337 : Cond.code y_Bs_present b_Bs_present 2 (some .long) ∈ TT := TT_2 97 (by rfl) (by rfl)
theorem w_338 : Cond.methodLink "BlockTargetSessionLaw" 81 y_Bs_disk ∈ TT := TT_2 98 (by rfl) (by rfl)
theorem w_339 : Cond.instanceMethod y_Bs_disk ∈ TT := TT_2 99 (by rfl) (by rfl)
theorem w_340 : Cond.selects "BlockTargetSession" y_Bs_disk y_Bs_disk ∈ TT := TT_2 100 (by rfl) (by rfl)
theorem w_341 : Cond.code y_Bs_disk b_Bs_disk 2 (some .long) ∈ TT := TT_2 101 (by rfl) (by rfl)
theorem w_342 : Cond.methodLink "BlockTargetSessionLaw" 85 y_Bs_cached ∈ TT := TT_2 102 (by rfl) (by rfl)
theorem w_343 : Cond.instanceMethod y_Bs_cached ∈ TT := TT_2 103 (by rfl) (by rfl)
theorem w_344 : Cond.selects "BlockTargetSession" y_Bs_cached y_Bs_cached ∈ TT := TT_2 104 (by rfl) (by rfl)
theorem w_345 : Cond.code y_Bs_cached b_Bs_cached 2 (some .int) ∈ TT := TT_2 105 (by rfl) (by rfl)
theorem w_346 : Cond.methodLink "BlockTargetSession" 147 y_St_blockAt ∈ TT := TT_2 106 (by rfl) (by rfl)
theorem w_347 : Cond.instanceMethod y_St_blockAt ∈ TT := TT_2 107 (by rfl) (by rfl)
theorem w_348 : Cond.selects "BlockTargetSession$Store" y_St_blockAt y_St_blockAt ∈ TT := TT_2 108 (by rfl) (by rfl)
theorem w_349 : Cond.code y_St_blockAt b_St_blockAt 2 (some .int) ∈ TT := TT_2 109 (by rfl) (by rfl)
theorem w_350 : Cond.methodLink "BlockTargetSessionLaw" 89 y_Bs_message ∈ TT := TT_2 110 (by rfl) (by rfl)
theorem w_351 : Cond.instanceMethod y_Bs_message ∈ TT := TT_2 111 (by rfl) (by rfl)
theorem w_352 : Cond.selects "BlockTargetSession" y_Bs_message y_Bs_message ∈ TT := TT_2 112 (by rfl) (by rfl)
theorem w_353 : Cond.code y_Bs_message b_Bs_message 5 (some .int) ∈ TT := TT_2 113 (by rfl) (by rfl)
theorem w_354 : Cond.methodLink "BlockTargetSessionLaw" 94 y_Bs_waiting ∈ TT := TT_2 114 (by rfl) (by rfl)
theorem w_355 : Cond.instanceMethod y_Bs_waiting ∈ TT := TT_2 115 (by rfl) (by rfl)
theorem w_356 : Cond.selects "BlockTargetSession" y_Bs_waiting y_Bs_waiting ∈ TT := TT_2 116 (by rfl) (by rfl)
theorem w_357 : Cond.code y_Bs_waiting b_Bs_waiting 2 (some .int) ∈ TT := TT_2 117 (by rfl) (by rfl)
theorem w_358 : Cond.methodLink "BlockTargetSessionLaw" 98 y_Bs_count ∈ TT := TT_2 118 (by rfl) (by rfl)
theorem w_359 : Cond.instanceMethod y_Bs_count ∈ TT := TT_2 119 (by rfl) (by rfl)
theorem w_360 : Cond.selects "BlockTargetSession" y_Bs_count y_Bs_count ∈ TT := TT_2 120 (by rfl) (by rfl)
theorem w_361 : Cond.code y_Bs_count b_Bs_count 2 (some .int) ∈ TT := TT_2 121 (by rfl) (by rfl)
theorem w_362 : Cond.methodLink "BlockTargetSessionLaw" 9 y_Lw_cell ∈ TT := TT_2 122 (by rfl) (by rfl)
theorem w_363 : Cond.static y_Lw_cell ∈ TT := TT_2 123 (by rfl) (by rfl)
theorem w_364 : Cond.code y_Lw_cell b_Lw_cell 2 (some .int) ∈ TT := TT_2 124 (by rfl) (by rfl)
theorem w_365 : Cond.classLink "BlockTargetSessionLaw" 18 "BlockTargetSessionModel" ∈ TT := TT_2 125 (by rfl) (by rfl)
theorem w_366 : Cond.instantiable "BlockTargetSessionModel" 25 ∈ TT := TT_2 126 (by rfl) (by rfl)
theorem w_367 : Cond.methodLink "BlockTargetSessionLaw" 20 y_Md_init ∈ TT := TT_2 127 (by rfl) (by rfl)
theorem w_368 : Cond.instanceMethod y_Md_init ∈ TT := TT_2 128 (by rfl) (by rfl)
theorem w_369 : Cond.code y_Md_init b_Md_init 3 none ∈ TT := TT_2 129 (by rfl) (by rfl)
theorem w_370 : Cond.methodLink "BlockTargetSessionModel" 1 Lib.objectInit ∈ TT := TT_2 130 (by rfl) (by rfl)
theorem w_371 : Cond.fieldLink "BlockTargetSessionModel" 67 "BlockTargetSessionModel" "window" "I" ∈ TT := TT_2 131 (by rfl) (by rfl)
theorem w_372 : Cond.fieldLink "BlockTargetSessionModel" 70 "BlockTargetSessionModel" "room" "I" ∈ TT := TT_2 132 (by rfl) (by rfl)
theorem w_373 : Cond.fieldLink "BlockTargetSessionModel" 7 "BlockTargetSessionModel" "disk" "[I" ∈ TT := TT_2 133 (by rfl) (by rfl)
theorem w_374 : Cond.fieldLink "BlockTargetSessionModel" 13 "BlockTargetSessionModel" "kept" "[I" ∈ TT := TT_2 134 (by rfl) (by rfl)
theorem w_375 : Cond.fieldLink "BlockTargetSessionModel" 16 "BlockTargetSessionModel" "stamp" "[I" ∈ TT := TT_2 135 (by rfl) (by rfl)
theorem w_376 : Cond.fieldLink "BlockTargetSessionModel" 91 "BlockTargetSessionModel" "clock" "I" ∈ TT := TT_2 136 (by rfl) (by rfl)
theorem w_377 : Cond.fieldLink "BlockTargetSessionModel" 19 "BlockTargetSessionModel" "kind" "[I" ∈ TT := TT_2 137 (by rfl) (by rfl)
theorem w_378 : Cond.fieldLink "BlockTargetSessionModel" 22 "BlockTargetSessionModel" "first" "[I" ∈ TT := TT_2 138 (by rfl) (by rfl)
theorem w_379 : Cond.fieldLink "BlockTargetSessionModel" 25 "BlockTargetSessionModel" "length" "[I" ∈ TT := TT_2 139 (by rfl) (by rfl)
theorem w_380 : Cond.fieldLink "BlockTargetSessionModel" 28 "BlockTargetSessionModel" "value" "[I" ∈ TT := TT_2 140 (by rfl) (by rfl)
theorem w_381 : Cond.fieldLink "BlockTargetSessionModel" 31 "BlockTargetSessionModel" "state" "[I" ∈ TT := TT_2 141 (by rfl) (by rfl)
theorem w_382 : Cond.fieldLink "BlockTargetSessionModel" 34 "BlockTargetSessionModel" "results" "[I" ∈ TT := TT_2 142 (by rfl) (by rfl)
theorem w_383 : Cond.fieldLink "BlockTargetSessionModel" 76 "BlockTargetSessionModel" "requests" "I" ∈ TT := TT_2 143 (by rfl) (by rfl)
theorem w_384 : Cond.fieldLink "BlockTargetSessionModel" 37 "BlockTargetSessionModel" "mRequest" "[I" ∈ TT := TT_2 144 (by rfl) (by rfl)
theorem w_385 : Cond.fieldLink "BlockTargetSessionModel" 40 "BlockTargetSessionModel" "mKind" "[I" ∈ TT := TT_2 145 (by rfl) (by rfl)
theorem w_386 : Cond.fieldLink "BlockTargetSessionModel" 43 "BlockTargetSessionModel" "mNumber" "[I" ∈ TT := TT_2 146 (by rfl) (by rfl)
theorem w_387 : Cond.fieldLink "BlockTargetSessionModel" 46 "BlockTargetSessionModel" "mValue" "[I" ∈ TT := TT_2 147 (by rfl) (by rfl)
theorem w_388 : Cond.fieldLink "BlockTargetSessionModel" 49 "BlockTargetSessionModel" "mCarried" "[I" ∈ TT := TT_2 148 (by rfl) (by rfl)
theorem w_389 : Cond.fieldLink "BlockTargetSessionModel" 52 "BlockTargetSessionModel" "mDamaged" "[Z" ∈ TT := TT_2 149 (by rfl) (by rfl)
theorem w_390 : Cond.fieldLink "BlockTargetSessionModel" 56 "BlockTargetSessionModel" "held" "[I" ∈ TT := TT_2 150 (by rfl) (by rfl)
theorem w_391 : Cond.fieldLink "BlockTargetSessionModel" 59 "BlockTargetSessionModel" "open" "Z" ∈ TT := TT_2 151 (by rfl) (by rfl)
theorem w_392 : Cond.fieldLink "BlockTargetSessionModel" 107 "BlockTargetSessionModel" "sends" "I" ∈ TT := TT_2 152 (by rfl) (by rfl)
theorem w_393 : Cond.fieldLink "BlockTargetSessionModel" 101 "BlockTargetSessionModel" "dones" "I" ∈ TT := TT_2 153 (by rfl) (by rfl)
theorem w_394 : Cond.fieldLink "BlockTargetSessionModel" 73 "BlockTargetSessionModel" "credit" "I" ∈ TT := TT_2 154 (by rfl) (by rfl)
theorem w_395 : Cond.fieldLink "BlockTargetSessionModel" 63 "BlockTargetSessionModel" "sessions" "I" ∈ TT := TT_2 155 (by rfl) (by rfl)
theorem w_447 : Cond.arrayClass .boolean ∈ TT := TT_2 207 (by rfl) (by rfl)
theorem w_448 : Cond.methodLink "BlockTargetSessionLaw" 25 y_Md_write ∈ TT := TT_2 208 (by rfl) (by rfl)
theorem w_449 : Cond.instanceMethod y_Md_write ∈ TT := TT_2 209 (by rfl) (by rfl)
theorem w_450 : Cond.selects "BlockTargetSessionModel" y_Md_write y_Md_write ∈ TT := TT_2 210 (by rfl) (by rfl)
theorem w_451 : Cond.code y_Md_write b_Md_write 4 (some .int) ∈ TT := TT_2 211 (by rfl) (by rfl)
theorem w_452 : Cond.methodLink "BlockTargetSessionModel" 79 y_Md_outside ∈ TT := TT_2 212 (by rfl) (by rfl)
theorem w_454 : Cond.instanceMethod y_Md_outside ∈ TT := TT_2 214 (by rfl) (by rfl)
theorem w_455 : Cond.code y_Md_outside b_Md_outside 3 (some .boolean) ∈ TT := TT_2 215 (by rfl) (by rfl)
theorem w_456 : Cond.methodLink "BlockTargetSessionModel" 83 y_Md_add ∈ TT := TT_2 216 (by rfl) (by rfl)
theorem w_458 : Cond.instanceMethod y_Md_add ∈ TT := TT_2 218 (by rfl) (by rfl)
theorem w_459 : Cond.code y_Md_add b_Md_add 5 (some .int) ∈ TT := TT_2 219 (by rfl) (by rfl)
theorem w_460 : Cond.methodLink "BlockTargetSessionLaw" 30 y_Md_read ∈ TT := TT_2 220 (by rfl) (by rfl)
theorem w_461 : Cond.instanceMethod y_Md_read ∈ TT := TT_2 221 (by rfl) (by rfl)
theorem w_462 : Cond.selects "BlockTargetSessionModel" y_Md_read y_Md_read ∈ TT := TT_2 222 (by rfl) (by rfl)
theorem w_463 : Cond.code y_Md_read b_Md_read 3 (some .int) ∈ TT := TT_2 223 (by rfl) (by rfl)
theorem w_464 : Cond.methodLink "BlockTargetSessionLaw" 35 y_Md_sync ∈ TT := TT_2 224 (by rfl) (by rfl)
theorem w_465 : Cond.instanceMethod y_Md_sync ∈ TT := TT_2 225 (by rfl) (by rfl)
theorem w_466 : Cond.selects "BlockTargetSessionModel" y_Md_sync y_Md_sync ∈ TT := TT_2 226 (by rfl) (by rfl)
theorem w_467 : Cond.code y_Md_sync b_Md_sync 1 (some .int) ∈ TT := TT_2 227 (by rfl) (by rfl)
theorem w_468 : Cond.methodLink "BlockTargetSessionLaw" 65 y_Md_flush ∈ TT := TT_2 228 (by rfl) (by rfl)
theorem w_469 : Cond.instanceMethod y_Md_flush ∈ TT := TT_2 229 (by rfl) (by rfl)
theorem w_470 : Cond.selects "BlockTargetSessionModel" y_Md_flush y_Md_flush ∈ TT := TT_2 230 (by rfl) (by rfl)
theorem w_471 : Cond.code y_Md_flush b_Md_flush 2 (some .int) ∈ TT := TT_2 231 (by rfl) (by rfl)
theorem w_472 : Cond.methodLink "BlockTargetSessionModel" 87 y_Md_blockAt ∈ TT := TT_2 232 (by rfl) (by rfl)
theorem w_474 : Cond.instanceMethod y_Md_blockAt ∈ TT := TT_2 234 (by rfl) (by rfl)
theorem w_475 : Cond.code y_Md_blockAt b_Md_blockAt 5 (some .int) ∈ TT := TT_2 235 (by rfl) (by rfl)
theorem w_476 : Cond.methodLink "BlockTargetSessionLaw" 39 y_Md_send ∈ TT := TT_2 236 (by rfl) (by rfl)
theorem w_477 : Cond.instanceMethod y_Md_send ∈ TT := TT_2 237 (by rfl) (by rfl)
theorem w_478 : Cond.selects "BlockTargetSessionModel" y_Md_send y_Md_send ∈ TT := TT_2 238 (by rfl) (by rfl)
theorem w_479 : Cond.code y_Md_send b_Md_send 2 (some .int) ∈ TT := TT_2 239 (by rfl) (by rfl)
theorem w_480 : Cond.methodLink "BlockTargetSessionModel" 104 y_Md_number ∈ TT := TT_3 0 (by rfl) (by rfl)
theorem w_482 : Cond.instanceMethod y_Md_number ∈ TT := TT_3 2 (by rfl) (by rfl)
theorem w_483 : Cond.code y_Md_number b_Md_number 4 (some .int) ∈ TT := TT_3 3 (by rfl) (by rfl)
theorem w_484 : Cond.methodLink "BlockTargetSessionModel" 110 y_Md_post ∈ TT := TT_3 4 (by rfl) (by rfl)
theorem w_486 : Cond.instanceMethod y_Md_post ∈ TT := TT_3 6 (by rfl) (by rfl)
theorem w_487 : Cond.code y_Md_post b_Md_post 7 none ∈ TT := TT_3 7 (by rfl) (by rfl)
theorem w_488 : Cond.methodLink "BlockTargetSessionLaw" 44 y_Md_deliver ∈ TT := TT_3 8 (by rfl) (by rfl)
theorem w_489 : Cond.instanceMethod y_Md_deliver ∈ TT := TT_3 9 (by rfl) (by rfl)
theorem w_490 : Cond.selects "BlockTargetSessionModel" y_Md_deliver y_Md_deliver ∈ TT := TT_3 10 (by rfl) (by rfl)
theorem w_491 : Cond.code y_Md_deliver b_Md_deliver 10 (some .int) ∈ TT := TT_3 11 (by rfl) (by rfl)
theorem w_492 : Cond.methodLink "BlockTargetSessionModel" 128 y_Md_end ∈ TT := TT_3 12 (by rfl) (by rfl)
theorem w_494 : Cond.instanceMethod y_Md_end ∈ TT := TT_3 14 (by rfl) (by rfl)
theorem w_495 : Cond.code y_Md_end b_Md_end 2 none ∈ TT := TT_3 15 (by rfl) (by rfl)
theorem w_496 : Cond.methodLink "BlockTargetSessionModel" 131 y_Md_work ∈ TT := TT_3 16 (by rfl) (by rfl)
theorem w_498 : Cond.instanceMethod y_Md_work ∈ TT := TT_3 18 (by rfl) (by rfl)
theorem w_499 : Cond.code y_Md_work b_Md_work 6 none ∈ TT := TT_3 19 (by rfl) (by rfl)
theorem w_500 : Cond.methodLink "BlockTargetSessionModel" 122 y_Md_putAll ∈ TT := TT_3 20 (by rfl) (by rfl)
theorem w_502 : Cond.instanceMethod y_Md_putAll ∈ TT := TT_3 22 (by rfl) (by rfl)
theorem w_503 : Cond.code y_Md_putAll b_Md_putAll 3 none ∈ TT := TT_3 23 (by rfl) (by rfl)
theorem w_504 : Cond.methodLink "BlockTargetSessionModel" 114 y_Md_put ∈ TT := TT_3 24 (by rfl) (by rfl)
theorem w_506 : Cond.instanceMethod y_Md_put ∈ TT := TT_3 26 (by rfl) (by rfl)
theorem w_507 : Cond.code y_Md_put b_Md_put 4 none ∈ TT := TT_3 27 (by rfl) (by rfl)
theorem w_508 : Cond.methodLink "BlockTargetSessionModel" 94 y_Md_size ∈ TT := TT_3 28 (by rfl) (by rfl)
theorem w_510 : Cond.instanceMethod y_Md_size ∈ TT := TT_3 30 (by rfl) (by rfl)
theorem w_511 : Cond.code y_Md_size b_Md_size 3 (some .int) ∈ TT := TT_3 31 (by rfl) (by rfl)
theorem w_512 : Cond.methodLink "BlockTargetSessionModel" 98 y_Md_flush ∈ TT := TT_3 32 (by rfl) (by rfl)
theorem w_513 : Cond.methodLink "BlockTargetSessionModel" 118 y_Md_finish ∈ TT := TT_3 33 (by rfl) (by rfl)
theorem w_515 : Cond.instanceMethod y_Md_finish ∈ TT := TT_3 35 (by rfl) (by rfl)
theorem w_516 : Cond.code y_Md_finish b_Md_finish 2 none ∈ TT := TT_3 36 (by rfl) (by rfl)
theorem w_517 : Cond.methodLink "BlockTargetSessionModel" 125 y_Md_valueOf ∈ TT := TT_3 37 (by rfl) (by rfl)
theorem w_519 : Cond.instanceMethod y_Md_valueOf ∈ TT := TT_3 39 (by rfl) (by rfl)
theorem w_520 : Cond.code y_Md_valueOf b_Md_valueOf 2 (some .int) ∈ TT := TT_3 40 (by rfl) (by rfl)
theorem w_521 : Cond.methodLink "BlockTargetSessionModel" 135 y_Md_take ∈ TT := TT_3 41 (by rfl) (by rfl)
theorem w_523 : Cond.instanceMethod y_Md_take ∈ TT := TT_3 43 (by rfl) (by rfl)
theorem w_524 : Cond.code y_Md_take b_Md_take 6 none ∈ TT := TT_3 44 (by rfl) (by rfl)
theorem w_525 : Cond.methodLink "BlockTargetSessionLaw" 49 y_Md_damage ∈ TT := TT_3 45 (by rfl) (by rfl)
theorem w_526 : Cond.instanceMethod y_Md_damage ∈ TT := TT_3 46 (by rfl) (by rfl)
theorem w_527 : Cond.selects "BlockTargetSessionModel" y_Md_damage y_Md_damage ∈ TT := TT_3 47 (by rfl) (by rfl)
theorem w_528 : Cond.code y_Md_damage b_Md_damage 4 (some .int) ∈ TT := TT_3 48 (by rfl) (by rfl)
theorem w_529 : Cond.methodLink "BlockTargetSessionLaw" 53 y_Md_drop ∈ TT := TT_3 49 (by rfl) (by rfl)
theorem w_530 : Cond.instanceMethod y_Md_drop ∈ TT := TT_3 50 (by rfl) (by rfl)
theorem w_531 : Cond.selects "BlockTargetSessionModel" y_Md_drop y_Md_drop ∈ TT := TT_3 51 (by rfl) (by rfl)
theorem w_532 : Cond.code y_Md_drop b_Md_drop 1 (some .int) ∈ TT := TT_3 52 (by rfl) (by rfl)
theorem w_533 : Cond.methodLink "BlockTargetSessionLaw" 57 y_Md_crash ∈ TT := TT_3 53 (by rfl) (by rfl)
theorem w_534 : Cond.instanceMethod y_Md_crash ∈ TT := TT_3 54 (by rfl) (by rfl)
theorem w_535 : Cond.selects "BlockTargetSessionModel" y_Md_crash y_Md_crash ∈ TT := TT_3 55 (by rfl) (by rfl)
theorem w_536 : Cond.code y_Md_crash b_Md_crash 2 (some .int) ∈ TT := TT_3 56 (by rfl) (by rfl)
theorem w_537 : Cond.methodLink "BlockTargetSessionLaw" 61 y_Md_login ∈ TT := TT_3 57 (by rfl) (by rfl)
theorem w_538 : Cond.instanceMethod y_Md_login ∈ TT := TT_3 58 (by rfl) (by rfl)
theorem w_539 : Cond.selects "BlockTargetSessionModel" y_Md_login y_Md_login ∈ TT := TT_3 59 (by rfl) (by rfl)
theorem w_540 : Cond.code y_Md_login b_Md_login 1 (some .int) ∈ TT := TT_3 60 (by rfl) (by rfl)
theorem w_541 : Cond.methodLink "BlockTargetSessionLaw" 70 y_Md_state ∈ TT := TT_3 61 (by rfl) (by rfl)
theorem w_542 : Cond.instanceMethod y_Md_state ∈ TT := TT_3 62 (by rfl) (by rfl)
theorem w_543 : Cond.selects "BlockTargetSessionModel" y_Md_state y_Md_state ∈ TT := TT_3 63 (by rfl) (by rfl)
theorem w_544 : Cond.code y_Md_state b_Md_state 2 (some .int) ∈ TT := TT_3 64 (by rfl) (by rfl)
theorem w_545 : Cond.methodLink "BlockTargetSessionLaw" 75 y_Md_result ∈ TT := TT_3 65 (by rfl) (by rfl)
theorem w_546 : Cond.instanceMethod y_Md_result ∈ TT := TT_3 66 (by rfl) (by rfl)
theorem w_547 : Cond.selects "BlockTargetSessionModel" y_Md_result y_Md_result ∈ TT := TT_3 67 (by rfl) (by rfl)
theorem w_548 : Cond.code y_Md_result b_Md_result 3 (some .long) ∈ TT := TT_3 68 (by rfl) (by rfl)
theorem w_549 : Cond.constantLong "BlockTargetSessionModel" 138 (-1000000000000) ∈ TT := TT_3 69 (by rfl) (by rfl)
theorem w_550 : Cond.methodLink "BlockTargetSessionLaw" 80 y_Md_present ∈ TT := TT_3 70 (by rfl) (by rfl)
theorem w_551 : Cond.instanceMethod y_Md_present ∈ TT := TT_3 71 (by rfl) (by rfl)
theorem w_552 : Cond.selects "BlockTargetSessionModel" y_Md_present y_Md_present ∈ TT := TT_3 72 (by rfl) (by rfl)
theorem w_553 : Cond.code y_Md_present b_Md_present 2 (some .long) ∈ TT := TT_3 73 (by rfl) (by rfl)
theorem w_554 : Cond.methodLink "BlockTargetSessionLaw" 84 y_Md_disk ∈ TT := TT_3 74 (by rfl) (by rfl)
theorem w_555 : Cond.instanceMethod y_Md_disk ∈ TT := TT_3 75 (by rfl) (by rfl)
theorem w_556 : Cond.selects "BlockTargetSessionModel" y_Md_disk y_Md_disk ∈ TT := TT_3 76 (by rfl) (by rfl)
theorem w_557 : Cond.code y_Md_disk b_Md_disk 2 (some .long) ∈ TT := TT_3 77 (by rfl) (by rfl)
theorem w_558 : Cond.methodLink "BlockTargetSessionLaw" 88 y_Md_cached ∈ TT := TT_3 78 (by rfl) (by rfl)
theorem w_559 : Cond.instanceMethod y_Md_cached ∈ TT := TT_3 79 (by rfl) (by rfl)
theorem w_560 : Cond.selects "BlockTargetSessionModel" y_Md_cached y_Md_cached ∈ TT := TT_3 80 (by rfl) (by rfl)
theorem w_561 : Cond.code y_Md_cached b_Md_cached 2 (some .int) ∈ TT := TT_3 81 (by rfl) (by rfl)
theorem w_562 : Cond.methodLink "BlockTargetSessionLaw" 93 y_Md_message ∈ TT := TT_3 82 (by rfl) (by rfl)
theorem w_563 : Cond.instanceMethod y_Md_message ∈ TT := TT_3 83 (by rfl) (by rfl)
theorem w_564 : Cond.selects "BlockTargetSessionModel" y_Md_message y_Md_message ∈ TT := TT_3 84 (by rfl) (by rfl)
theorem w_565 : Cond.code y_Md_message b_Md_message 6 (some .int) ∈ TT := TT_3 85 (by rfl) (by rfl)
theorem w_566 : Cond.methodLink "BlockTargetSessionLaw" 97 y_Md_waiting ∈ TT := TT_3 86 (by rfl) (by rfl)
theorem w_567 : Cond.instanceMethod y_Md_waiting ∈ TT := TT_3 87 (by rfl) (by rfl)
theorem w_568 : Cond.selects "BlockTargetSessionModel" y_Md_waiting y_Md_waiting ∈ TT := TT_3 88 (by rfl) (by rfl)
theorem w_569 : Cond.code y_Md_waiting b_Md_waiting 2 (some .int) ∈ TT := TT_3 89 (by rfl) (by rfl)
theorem w_570 : Cond.methodLink "BlockTargetSessionLaw" 101 y_Md_count ∈ TT := TT_3 90 (by rfl) (by rfl)
theorem w_571 : Cond.instanceMethod y_Md_count ∈ TT := TT_3 91 (by rfl) (by rfl)
theorem w_572 : Cond.selects "BlockTargetSessionModel" y_Md_count y_Md_count ∈ TT := TT_3 92 (by rfl) (by rfl)
theorem w_573 : Cond.code y_Md_count b_Md_count 2 (some .int) ∈ TT := TT_3 93 (by rfl) (by rfl)
theorem wp_0 : Cond.selects "BlockTargetSession" y_Bs_beginSession y_Bs_beginSession ∈ TT := TT_p 0 (by rfl) (by rfl)
theorem wp_1 : Cond.selects "BlockTargetSession" y_Bs_addRequest y_Bs_addRequest ∈ TT := TT_p 1 (by rfl) (by rfl)
theorem wp_2 : Cond.selects "BlockTargetSession" y_Bs_firstOpenRequest y_Bs_firstOpenRequest ∈ TT := TT_p 2 (by rfl) (by rfl)
theorem wp_3 : Cond.selects "BlockTargetSession" y_Bs_sendUp y_Bs_sendUp ∈ TT := TT_p 3 (by rfl) (by rfl)
theorem wp_4 : Cond.selects "BlockTargetSession" y_Bs_lineOf y_Bs_lineOf ∈ TT := TT_p 4 (by rfl) (by rfl)
theorem wp_5 : Cond.selects "BlockTargetSession" y_Bs_breakSession y_Bs_breakSession ∈ TT := TT_p 5 (by rfl) (by rfl)
theorem wp_6 : Cond.selects "BlockTargetSession" y_Bs_workAtTarget y_Bs_workAtTarget ∈ TT := TT_p 6 (by rfl) (by rfl)
theorem wp_7 : Cond.selects "BlockTargetSession" y_Bs_requestAt y_Bs_requestAt ∈ TT := TT_p 7 (by rfl) (by rfl)
theorem wp_8 : Cond.selects "BlockTargetSession" y_Bs_workPartOfWrite y_Bs_workPartOfWrite ∈ TT := TT_p 8 (by rfl) (by rfl)
theorem wp_9 : Cond.selects "BlockTargetSession" y_Bs_sendDown y_Bs_sendDown ∈ TT := TT_p 9 (by rfl) (by rfl)
theorem wp_10 : Cond.selects "BlockTargetSession$Store" y_St_placeOf y_St_placeOf ∈ TT := TT_p 10 (by rfl) (by rfl)
theorem wp_11 : Cond.selects "BlockTargetSession" y_Bs_finish y_Bs_finish ∈ TT := TT_p 11 (by rfl) (by rfl)
theorem wp_12 : Cond.selects "BlockTargetSession" y_Bs_workRead y_Bs_workRead ∈ TT := TT_p 12 (by rfl) (by rfl)
theorem wp_13 : Cond.selects "BlockTargetSession" y_Bs_workSync y_Bs_workSync ∈ TT := TT_p 13 (by rfl) (by rfl)
theorem wp_14 : Cond.selects "BlockTargetSession" y_Bs_takeAtInitiator y_Bs_takeAtInitiator ∈ TT := TT_p 14 (by rfl) (by rfl)
theorem wp_15 : Cond.selects "BlockTargetSession" y_Bs_requestsIn y_Bs_requestsIn ∈ TT := TT_p 15 (by rfl) (by rfl)
theorem wp_16 : Cond.selects "BlockTargetSessionModel" y_Md_outside y_Md_outside ∈ TT := TT_p 16 (by rfl) (by rfl)
theorem wp_17 : Cond.selects "BlockTargetSessionModel" y_Md_add y_Md_add ∈ TT := TT_p 17 (by rfl) (by rfl)
theorem wp_18 : Cond.selects "BlockTargetSessionModel" y_Md_blockAt y_Md_blockAt ∈ TT := TT_p 18 (by rfl) (by rfl)
theorem wp_19 : Cond.selects "BlockTargetSessionModel" y_Md_number y_Md_number ∈ TT := TT_p 19 (by rfl) (by rfl)
theorem wp_20 : Cond.selects "BlockTargetSessionModel" y_Md_post y_Md_post ∈ TT := TT_p 20 (by rfl) (by rfl)
theorem wp_21 : Cond.selects "BlockTargetSessionModel" y_Md_end y_Md_end ∈ TT := TT_p 21 (by rfl) (by rfl)
theorem wp_22 : Cond.selects "BlockTargetSessionModel" y_Md_work y_Md_work ∈ TT := TT_p 22 (by rfl) (by rfl)
theorem wp_23 : Cond.selects "BlockTargetSessionModel" y_Md_putAll y_Md_putAll ∈ TT := TT_p 23 (by rfl) (by rfl)
theorem wp_24 : Cond.selects "BlockTargetSessionModel" y_Md_put y_Md_put ∈ TT := TT_p 24 (by rfl) (by rfl)
theorem wp_25 : Cond.selects "BlockTargetSessionModel" y_Md_size y_Md_size ∈ TT := TT_p 25 (by rfl) (by rfl)
theorem wp_26 : Cond.selects "BlockTargetSessionModel" y_Md_finish y_Md_finish ∈ TT := TT_p 26 (by rfl) (by rfl)
theorem wp_27 : Cond.selects "BlockTargetSessionModel" y_Md_valueOf y_Md_valueOf ∈ TT := TT_p 27 (by rfl) (by rfl)
theorem wp_28 : Cond.selects "BlockTargetSessionModel" y_Md_take y_Md_take ∈ TT := TT_p 28 (by rfl) (by rfl)
set_option maxRecDepth 20000 in
theorem in_Ln : ∀ w ∈ u_ws "BlockTargetSession$Line" F_Ln 2, w ∈ TT := by decide +kernel
theorem cl_Ln : cls[0]? = some ("BlockTargetSession$Line", F_Ln, 2) := rfl
set_option maxRecDepth 20000 in
theorem in_Ms : ∀ w ∈ u_ws "BlockTargetSession$Message" F_Ms 6, w ∈ TT := by decide +kernel
theorem cl_Ms : cls[1]? = some ("BlockTargetSession$Message", F_Ms, 6) := rfl
set_option maxRecDepth 20000 in
theorem in_Rq : ∀ w ∈ u_ws "BlockTargetSession$Request" F_Rq 6, w ∈ TT := by decide +kernel
theorem cl_Rq : cls[2]? = some ("BlockTargetSession$Request", F_Rq, 6) := rfl
set_option maxRecDepth 20000 in
theorem in_St : ∀ w ∈ u_ws "BlockTargetSession$Store" F_St 5, w ∈ TT := by decide +kernel
theorem cl_St : cls[3]? = some ("BlockTargetSession$Store", F_St, 5) := rfl
set_option maxRecDepth 20000 in
theorem in_Bs : ∀ w ∈ u_ws "BlockTargetSession" F_Bs 11, w ∈ TT := by decide +kernel
theorem cl_Bs : cls[4]? = some ("BlockTargetSession", F_Bs, 11) := rfl
set_option maxRecDepth 20000 in
theorem in_Md : ∀ w ∈ u_ws "BlockTargetSessionModel" F_Md 25, w ∈ TT := by decide +kernel
theorem cl_Md : cls[5]? = some ("BlockTargetSessionModel", F_Md, 25) := rfl
end
section
/-! Memory as a function: address to cell. Built on the kit's worlds (va_at, va_K, va_S). -/
abbrev Mem : Type := Nat → Option va_E
abbrev aI (c : ClassId) (n : Nat) (f : Nat → Int32) : va_E := .inl (c, n, .inl f)
abbrev aL (c : ClassId) (n : Nat) (f : Nat → Int64) : va_E := .inl (c, n, .inr (.inl f))
abbrev aQ (c : ClassId) (n : Nat) (f : Nat → Option Nat) : va_E := .inl (c, n, .inr (.inr (.inr (.inr f))))
abbrev ob (ci : Nat) (fs : List Value) : va_E := .inr (ci, fs)
def mset (M : Mem) (a : Nat) (e : va_E) : Mem := fun b => if b = a then some e else M b
theorem mset_self (M : Mem) (a : Nat) (e : va_E) : mset M a e a = some e := if_pos rfl
theorem mset_ne {M : Mem} {a b : Nat} {e : va_E} (h : b ≠ a) : mset M a e b = M b := if_neg h
theorem mset_set (M : Mem) (a : Nat) (e e' : va_E) : mset (mset M a e) a e' = mset M a e' := by
  funext b
  by_cases h : b = a
  · subst h; rw [mset_self, mset_self]
  · rw [mset_ne h, mset_ne h, mset_ne h]
theorem mset_comm (M : Mem) {a b : Nat} (e e' : va_E) (hab : a ≠ b) : mset (mset M a e) b e' = mset (mset M b e') a e := by
  funext c
  by_cases h : c = b
  · subst h; rw [mset_self, mset_ne (Ne.symm hab), mset_self]
  · rw [mset_ne h]
    by_cases h2 : c = a
    · subst h2; rw [mset_self, mset_self]
    · rw [mset_ne h2, mset_ne h2, mset_ne h]
theorem mset_id {M : Mem} {a : Nat} {e : va_E} (h : M a = some e) : mset M a e = M := by
  funext b
  by_cases hb : b = a
  · subst hb; rw [mset_self, h]
  · rw [mset_ne hb]
/-- a cell's kind: two cells of different kinds lie apart -/
def kd : va_E → Nat × Nat
  | .inl (_, _, .inl _) => (0, 0)
  | .inl (_, _, .inr (.inl _)) => (0, 1)
  | .inl (_, _, .inr (.inr _)) => (0, 2)
  | .inr (c, _) => (1, c)
theorem mne {M : Mem} {a b : Nat} {e e' : va_E} (h1 : M a = some e) (h2 : M b = some e') (h : kd e ≠ kd e') : a ≠ b := by
  intro hab
  subst hab
  rw [h1] at h2
  cases h2
  exact h rfl
def mm_h (D : va_G) (cl : List vw_C) (M : Mem) (H : Heap) : Prop := ∀ (a : Nat) (e : va_E), M a = some e → va_at D cl (a, e) H
def mm_ok (D : va_G) (cl : List vw_C) (A : Nat → Prop) (M : Mem) (H : Heap) : Prop := ∀ (a : Nat) (e : va_E), M a = some e → A a ∧ va_at D cl (a, e) H
def mm_A (M : Mem) (sz : Nat) : Nat → Prop := fun q => (∃ e, M q = some e) ∨ sz ≤ q
section MMB
variable {D : va_G} {cl : List vw_C} {A : Nat → Prop} {M : Mem} {H H1 : Heap} {a : Nat} {e : va_E}
theorem mm_ok.one (h : mm_ok D cl A M H) (ha : M a = some e) : va_P D cl [(a, e)] H := by
  intro k q hk
  cases k with
  | zero => cases hk; exact (h a e ha).2
  | succ n => simp at hk
theorem mm_ok.lt (h : mm_ok D cl A M H) (ha : M a = some e) : a < H.size := (h a e ha).2.lt
theorem mm_ok.fresh (h : mm_ok D cl A M H) : M H.size = none := by
  cases hx : M H.size with
  | none => rfl
  | some e => exact absurd (h.lt hx) (Nat.lt_irrefl _)
theorem mm_ok.set (h : mm_ok D cl A M H) (ha : A a) (he : va_at D cl (a, e) H1) (oq : ∀ q : Nat, q ≠ a → H1[q]? = H[q]?) : mm_ok D cl A (mset M a e) H1 := by
  intro b x hb
  by_cases hba : b = a
  · subst hba
    rw [mset_self] at hb
    cases hb
    exact ⟨ha, he⟩
  · rw [mset_ne hba] at hb
    exact ⟨(h b x hb).1, (h b x hb).2.kept (oq b hba)⟩
theorem mm_ok.push (h : mm_ok D cl A M H) (hA : A H.size) (he : va_at D cl (H.size, e) H1) (o1 : ∀ q : Nat, q < H.size → H1[q]? = H[q]?) : mm_ok D cl A (mset M H.size e) H1 := by
  intro b x hb
  by_cases hba : b = H.size
  · subst hba
    rw [mset_self] at hb
    cases hb
    exact ⟨hA, he⟩
  · rw [mset_ne hba] at hb
    exact ⟨(h b x hb).1, (h b x hb).2.kept (o1 b (h.lt hb))⟩
theorem mm_ok.self (h : mm_h D cl M H) (sz : Nat) : mm_ok D cl (mm_A M sz) M H := fun a e ha => ⟨Or.inl ⟨e, ha⟩, h a e ha⟩
theorem mm_ok.h (h : mm_ok D cl A M H) : mm_h D cl M H := fun a e ha => (h a e ha).2
theorem mm_ok.weaken {B : Nat → Prop} (h : mm_ok D cl A M H) (hAB : ∀ q, A q → B q) : mm_ok D cl B M H := fun a e ha => ⟨hAB a (h a e ha).1, (h a e ha).2⟩
end MMB
def lget : List (Nat × Value) → Nat → Option Value
  | [], _ => none
  | q :: r, i => if q.1 = i then some q.2 else lget r i
theorem lget_mem {l : List (Nat × Value)} {i : Nat} {v : Value} (h : lget l i = some v) : (i, v) ∈ l := by
  induction l with
  | nil => cases h
  | cons q r ih =>
    unfold lget at h
    by_cases hq : q.1 = i
    · rw [if_pos hq] at h
      cases h
      subst hq
      exact List.mem_cons_self
    · rw [if_neg hq] at h
      exact List.mem_cons_of_mem _ (ih h)
theorem lget_at {ls : Array Slot} {nL : Nat} {l : List (Nat × Value)} (h : lv_has ls nL l) {i : Nat} {v : Value} (hk : lget l i = some v) : ls[i]? = some (.val v) := h.2.2 (i, v) (lget_mem hk)
/-- the words of the tables, whatever the arguments -/
def tw (T : List Cond) (U : State) : Prop := ∀ w ∈ T, ∀ a : Array Value, w.before a U = true
def Kw (T : List Cond) (D : va_G) (cl : List vw_C) (tys : List (ClassId × FieldType)) (U : State) : Prop := va_K D cl tys U ∧ tw T U
theorem mov_at {w : Cond} (hm : mov w = true) {s U : State} (hW : s.WarmedH U.vm) (h : ∀ a : Array Value, w.before a s = true) (a' : Array Value) : w.before a' U = true := by
  cases w <;> first
    | exact word_at hW (Or.inl hm) (h #[])
    | exact word_at hW (Or.inr ⟨_, rfl⟩) (h #[])
    | exact va_Nw.use rfl (va_Nw.warmF hW (h #[]))
    | exact va_Nw.use rfl (va_Nw.warmM hW (h #[]))
    | (rename_i ty; cases ty <;> first | exact va_AO.use (va_AO.moved hW.alike (va_AO.of (h #[]))) | (simp [mov, Cond.onTables] at hm))
theorem tw.moved {T : List Cond} (hT : ∀ w ∈ T, mov w = true) {s U : State} (hW : s.WarmedH U.vm) (h : tw T s) : tw T U := fun w hw a => mov_at (hT w hw) hW (h w hw) a
theorem Kw.moved {T : List Cond} {D : va_G} {cl : List vw_C} {tys : List (ClassId × FieldType)} (hT : ∀ w ∈ T, mov w = true) {s U : State} (hW : s.WarmedH U.vm) (h : Kw T D cl tys s) : Kw T D cl tys U := ⟨va_K.moved hW.alike h.1, h.2.moved hT hW⟩
/-- a walk's context: tables' names, what may be written, the machine, the goal -/
abbrev Zt : Type := va_G × (Nat → Prop) × Program × Launch × Env × State × MethodId × Array Value × List Frame × Method × Code × (State → Prop)
abbrev Zt.D (Z : Zt) : va_G := Z.1
abbrev Zt.A (Z : Zt) : Nat → Prop := Z.2.1
abbrev Zt.p (Z : Zt) : Program := Z.2.2.1
abbrev Zt.l (Z : Zt) : Launch := Z.2.2.2.1
abbrev Zt.e (Z : Zt) : Env := Z.2.2.2.2.1
abbrev Zt.s (Z : Zt) : State := Z.2.2.2.2.2.1
abbrev Zt.m (Z : Zt) : MethodId := Z.2.2.2.2.2.2.1
abbrev Zt.args (Z : Zt) : Array Value := Z.2.2.2.2.2.2.2.1
abbrev Zt.below (Z : Zt) : List Frame := Z.2.2.2.2.2.2.2.2.1
abbrev Zt.meth (Z : Zt) : Method := Z.2.2.2.2.2.2.2.2.2.1
abbrev Zt.c (Z : Zt) : Code := Z.2.2.2.2.2.2.2.2.2.2.1
abbrev Zt.Q (Z : Zt) : State → Prop := Z.2.2.2.2.2.2.2.2.2.2.2
/-- what a method's walk stands on -/
def Cx (T : List Cond) (cl : List vw_C) (tys : List (ClassId × FieldType)) (own : String) (cc : ByteArray) (nL : Nat) (ret : Option FieldType) (Z : Zt) : Prop :=
  Z.p.tables.exec = Jvm.exec ∧ Z.c.code = cc ∧ Z.c.maxLocals = nL ∧ Z.s.vm.findClass own = some Z.m.cls ∧ Z.meth.sig.returnType = ret ∧ Z.meth.locks = false ∧ (∀ q, Z.s.heap.size ≤ q → Z.A q) ∧ (∀ w ∈ T, mov w = true) ∧ Kw T Z.D cl tys Z.s
def V (cl : List vw_C) (nL : Nat) (R : Room) (Z : Zt) (pc : Nat) (lv : List (Nat × Value)) (st : List Value) (M : Mem) (k n : Nat) : Prop :=
  ∀ (H : Heap) (locs : List Loc) (ls : Array Slot), lv_has ls nL lv → mm_ok Z.D cl Z.A M H → va_S Z.A Z.s.heap H locs → W Z.p Z.l Z.e R Z.s Z.m Z.args Z.below Z.meth Z.c H locs k n Z.Q (F0 Z.m pc ls st)
/-- the end of a contract -/
def mq (post : Option Value → Mem → Prop) (D : va_G) (cl : List vw_C) (A : Nat → Prop) : Array Value → State → Outcome → State → Prop := fun _ st oc t => (∃ (rv : Option Value) (M' : Mem), oc = .returned rv ∧ post rv M' ∧ mm_ok D cl A M' t.heap) ∧ va_F A st t
def rmOf (fr lo mc ms : Nat) : Room := { frames := fr, cells := mc, slots := ms, locals := lo }
/-- a method's contract: called with av over a memory M it returns, with post -/
def Ct (T : List Cond) (D : va_G) (cl : List vw_C) (tys : List (ClassId × FieldType)) (l : Launch) (y : MethodName) (cc : ByteArray) (maxL : Nat) (ret : Option FieldType) (fr lo mc ms : Nat) (av : List Value) (M : Mem) (post : Option Value → Mem → Prop) : Prop :=
  ∀ sz : Nat, Met l y [.code y cc maxL ret] (rmOf fr lo mc ms) (va_Pc av (fun U => U.heap.size = sz ∧ mm_h D cl M U.heap ∧ (∀ w ∈ T, mov w = true) ∧ Kw T D cl tys U)) (mq post D cl (mm_A M sz)) mc ms (mm_A M sz)

section VV
variable {T : List Cond} {cl : List vw_C} {tys : List (ClassId × FieldType)} {own : String} {cc : ByteArray} {nL : Nat} {ret : Option FieldType}
variable {R : Room} {Z : Zt} {pc : Nat} {lv : List (Nat × Value)} {st : List Value} {M : Mem} {k n : Nat}
theorem V.widen {k' n' : Nat} (h1 : k ≤ k') (h2 : n ≤ n') (kk : V cl nL R Z pc lv st M k' n') : V cl nL R Z pc lv st M k n := fun H locs ls hl hm hS => W.widen h1 h2 (kk H locs ls hl hm hS)
theorem V.pick {lv' : List (Nat × Value)} (ks : List Nat) (h : lv_pick lv ks = lv') (kk : V cl nL R Z pc lv' st M k n) : V cl nL R Z pc lv st M k n := fun H locs ls hl hm hS => kk H locs ls (lv_sub hl ks h) hm hS
theorem V.topi {x : Int32} (kk : ∀ y : Int32, y = x → V cl nL R Z pc lv (.int y :: st) M k n) : V cl nL R Z pc lv (.int x :: st) M k n := kk x rfl
theorem V.eqst {st' : List Value} (h : st = st') (kk : V cl nL R Z pc lv st' M k n) : V cl nL R Z pc lv st M k n := h ▸ kk
theorem V.eqM {M' : Mem} (h : M = M') (kk : V cl nL R Z pc lv st M' k n) : V cl nL R Z pc lv st M k n := h ▸ kk
theorem V.cs {k' n' : Nat} (h1 : k = k') (h2 : n = n') (kk : V cl nL R Z pc lv st M k' n') : V cl nL R Z pc lv st M k n := by subst h1; subst h2; exact kk
theorem v_iconst (C : Cx T cl tys own cc nL ret Z) {z : Int} {v : Int32} (hdg : decode cc pc = .ok (.iconst z, 1)) (hv : Int32.ofInt z = v) (kk : V cl nL R Z (pc + 1) lv (.int v :: st) M k n) : V cl nL R Z pc lv st M k n := fun H locs ls hl hm hS => lv_iconst C.1 C.2.1 hdg hv (kk H locs ls hl hm hS)
theorem v_bipush (C : Cx T cl tys own cc nL ret Z) {z : Int} {v : Int32} (hdg : decode cc pc = .ok (.bipush z, 2)) (hv : (Int8.ofInt z).toInt32 = v) (kk : V cl nL R Z (pc + 2) lv (.int v :: st) M k n) : V cl nL R Z pc lv st M k n := fun H locs ls hl hm hS => lv_bipush C.1 C.2.1 hdg hv (kk H locs ls hl hm hS)
theorem v_sipush (C : Cx T cl tys own cc nL ret Z) {z : Int} {v : Int32} (hdg : decode cc pc = .ok (.sipush z, 3)) (hv : (Int16.ofInt z).toInt32 = v) (kk : V cl nL R Z (pc + 3) lv (.int v :: st) M k n) : V cl nL R Z pc lv st M k n := fun H locs ls hl hm hS => lv_sipush C.1 C.2.1 hdg hv (kk H locs ls hl hm hS)
theorem v_lconst (C : Cx T cl tys own cc nL ret Z) {z : Fin 2} {v : Int64} (hdg : decode cc pc = .ok (.lconst z, 1)) (hv : Int64.ofNat (z : Nat) = v) (kk : V cl nL R Z (pc + 1) lv (.long v :: st) M k n) : V cl nL R Z pc lv st M k n := fun H locs ls hl hm hS => lv_lconst C.1 C.2.1 hdg hv (kk H locs ls hl hm hS)
theorem v_iload_n (C : Cx T cl tys own cc nL ret Z) {j : Fin 4} {i : Nat} {x : Int32} (hdg : decode cc pc = .ok (.iload_n j, 1)) (hi : (j : Nat) = i) (hg : lget lv i = some (.int x)) (kk : V cl nL R Z (pc + 1) lv (.int x :: st) M k n) : V cl nL R Z pc lv st M k n := fun H locs ls hl hm hS => lv_iload_n C.1 C.2.1 hdg hi (lget_at hl hg) (kk H locs ls hl hm hS)
theorem v_iload (C : Cx T cl tys own cc nL ret Z) {i : Nat} {x : Int32} (hdg : decode cc pc = .ok (.iload i, 2)) (hg : lget lv i = some (.int x)) (kk : V cl nL R Z (pc + 2) lv (.int x :: st) M k n) : V cl nL R Z pc lv st M k n := fun H locs ls hl hm hS => lv_iload C.1 C.2.1 hdg (lget_at hl hg) (kk H locs ls hl hm hS)
theorem v_lload_n (C : Cx T cl tys own cc nL ret Z) {j : Fin 4} {i : Nat} {x : Int64} (hdg : decode cc pc = .ok (.lload_n j, 1)) (hi : (j : Nat) = i) (hg : lget lv i = some (.long x)) (kk : V cl nL R Z (pc + 1) lv (.long x :: st) M k n) : V cl nL R Z pc lv st M k n := fun H locs ls hl hm hS => lv_lload_n C.1 C.2.1 hdg hi (lget_at hl hg) (kk H locs ls hl hm hS)
theorem v_lload (C : Cx T cl tys own cc nL ret Z) {i : Nat} {x : Int64} (hdg : decode cc pc = .ok (.lload i, 2)) (hg : lget lv i = some (.long x)) (kk : V cl nL R Z (pc + 2) lv (.long x :: st) M k n) : V cl nL R Z pc lv st M k n := fun H locs ls hl hm hS => lv_lload C.1 C.2.1 hdg (lget_at hl hg) (kk H locs ls hl hm hS)
theorem v_aload_n (C : Cx T cl tys own cc nL ret Z) {j : Fin 4} {i : Nat} {x : Nat} (hdg : decode cc pc = .ok (.aload_n j, 1)) (hi : (j : Nat) = i) (hg : lget lv i = some (.ref x)) (kk : V cl nL R Z (pc + 1) lv (.ref x :: st) M k n) : V cl nL R Z pc lv st M k n := fun H locs ls hl hm hS => lv_aload_n C.1 C.2.1 hdg hi (lget_at hl hg) (kk H locs ls hl hm hS)
theorem v_aload (C : Cx T cl tys own cc nL ret Z) {i : Nat} {x : Nat} (hdg : decode cc pc = .ok (.aload i, 2)) (hg : lget lv i = some (.ref x)) (kk : V cl nL R Z (pc + 2) lv (.ref x :: st) M k n) : V cl nL R Z pc lv st M k n := fun H locs ls hl hm hS => lv_aload C.1 C.2.1 hdg (lget_at hl hg) (kk H locs ls hl hm hS)
theorem v_aload_nN (C : Cx T cl tys own cc nL ret Z) {j : Fin 4} {i : Nat} (hdg : decode cc pc = .ok (.aload_n j, 1)) (hi : (j : Nat) = i) (hg : lget lv i = some .null) (kk : V cl nL R Z (pc + 1) lv (.null :: st) M k n) : V cl nL R Z pc lv st M k n := fun H locs ls hl hm hS => lv_aload_nN C.1 C.2.1 hdg hi (lget_at hl hg) (kk H locs ls hl hm hS)
theorem v_aloadN (C : Cx T cl tys own cc nL ret Z) {i : Nat} (hdg : decode cc pc = .ok (.aload i, 2)) (hg : lget lv i = some .null) (kk : V cl nL R Z (pc + 2) lv (.null :: st) M k n) : V cl nL R Z pc lv st M k n := fun H locs ls hl hm hS => lv_aloadN C.1 C.2.1 hdg (lget_at hl hg) (kk H locs ls hl hm hS)
theorem v_istore_n (C : Cx T cl tys own cc nL ret Z) {j : Fin 4} {i : Nat} {x : Int32} {lv' : List (Nat × Value)} (hdg : decode cc pc = .ok (.istore_n j, 1)) (hi : (j : Nat) = i) (hn : i < nL) (he : (i, (Value.int x)) :: lv.filter (fun q => !(q.1 == i) && !(q.1 + 1 == i && q.2.category == 2)) = lv') (kk : V cl nL R Z (pc + 1) lv' st M k n) : V cl nL R Z pc lv (.int x :: st) M k n := fun H locs ls hl hm hS => lv_istore_n C.1 C.2.1 hdg hi hl hn he (fun ls' hl' => kk H locs ls' hl' hm hS)
theorem v_istore (C : Cx T cl tys own cc nL ret Z)  {i : Nat} {x : Int32} {lv' : List (Nat × Value)} (hdg : decode cc pc = .ok (.istore i, 2))  (hn : i < nL) (he : (i, (Value.int x)) :: lv.filter (fun q => !(q.1 == i) && !(q.1 + 1 == i && q.2.category == 2)) = lv') (kk : V cl nL R Z (pc + 2) lv' st M k n) : V cl nL R Z pc lv (.int x :: st) M k n := fun H locs ls hl hm hS => lv_istore C.1 C.2.1 hdg hl hn he (fun ls' hl' => kk H locs ls' hl' hm hS)
theorem v_lstore_n (C : Cx T cl tys own cc nL ret Z) {j : Fin 4} {i : Nat} {x : Int64} {lv' : List (Nat × Value)} (hdg : decode cc pc = .ok (.lstore_n j, 1)) (hi : (j : Nat) = i) (hn : i + 1 < nL) (he : (i, (Value.long x)) :: lv.filter (fun q => !(q.1 == i) && (!(q.1 == i + 1) && !(q.1 + 1 == i && q.2.category == 2))) = lv') (kk : V cl nL R Z (pc + 1) lv' st M k n) : V cl nL R Z pc lv (.long x :: st) M k n := fun H locs ls hl hm hS => lv_lstore_n C.1 C.2.1 hdg hi hl hn he (fun ls' hl' => kk H locs ls' hl' hm hS)
theorem v_lstore (C : Cx T cl tys own cc nL ret Z)  {i : Nat} {x : Int64} {lv' : List (Nat × Value)} (hdg : decode cc pc = .ok (.lstore i, 2))  (hn : i + 1 < nL) (he : (i, (Value.long x)) :: lv.filter (fun q => !(q.1 == i) && (!(q.1 == i + 1) && !(q.1 + 1 == i && q.2.category == 2))) = lv') (kk : V cl nL R Z (pc + 2) lv' st M k n) : V cl nL R Z pc lv (.long x :: st) M k n := fun H locs ls hl hm hS => lv_lstore C.1 C.2.1 hdg hl hn he (fun ls' hl' => kk H locs ls' hl' hm hS)
theorem v_astore_n (C : Cx T cl tys own cc nL ret Z) {j : Fin 4} {i : Nat} {x : Nat} {lv' : List (Nat × Value)} (hdg : decode cc pc = .ok (.astore_n j, 1)) (hi : (j : Nat) = i) (hn : i < nL) (he : (i, (Value.ref x)) :: lv.filter (fun q => !(q.1 == i) && !(q.1 + 1 == i && q.2.category == 2)) = lv') (kk : V cl nL R Z (pc + 1) lv' st M k n) : V cl nL R Z pc lv (.ref x :: st) M k n := fun H locs ls hl hm hS => lv_astore_n C.1 C.2.1 hdg hi hl hn he (fun ls' hl' => kk H locs ls' hl' hm hS)
theorem v_astore (C : Cx T cl tys own cc nL ret Z)  {i : Nat} {x : Nat} {lv' : List (Nat × Value)} (hdg : decode cc pc = .ok (.astore i, 2))  (hn : i < nL) (he : (i, (Value.ref x)) :: lv.filter (fun q => !(q.1 == i) && !(q.1 + 1 == i && q.2.category == 2)) = lv') (kk : V cl nL R Z (pc + 2) lv' st M k n) : V cl nL R Z pc lv (.ref x :: st) M k n := fun H locs ls hl hm hS => lv_astore C.1 C.2.1 hdg hl hn he (fun ls' hl' => kk H locs ls' hl' hm hS)
theorem v_astore_nN (C : Cx T cl tys own cc nL ret Z) {j : Fin 4} {i : Nat}  {lv' : List (Nat × Value)} (hdg : decode cc pc = .ok (.astore_n j, 1)) (hi : (j : Nat) = i) (hn : i < nL) (he : (i, Value.null) :: lv.filter (fun q => !(q.1 == i) && !(q.1 + 1 == i && q.2.category == 2)) = lv') (kk : V cl nL R Z (pc + 1) lv' st M k n) : V cl nL R Z pc lv (.null :: st) M k n := fun H locs ls hl hm hS => lv_astore_nN C.1 C.2.1 hdg hi hl hn he (fun ls' hl' => kk H locs ls' hl' hm hS)
theorem v_astoreN (C : Cx T cl tys own cc nL ret Z)  {i : Nat}  {lv' : List (Nat × Value)} (hdg : decode cc pc = .ok (.astore i, 2))  (hn : i < nL) (he : (i, Value.null) :: lv.filter (fun q => !(q.1 == i) && !(q.1 + 1 == i && q.2.category == 2)) = lv') (kk : V cl nL R Z (pc + 2) lv' st M k n) : V cl nL R Z pc lv (.null :: st) M k n := fun H locs ls hl hm hS => lv_astoreN C.1 C.2.1 hdg hl hn he (fun ls' hl' => kk H locs ls' hl' hm hS)
theorem v_iinc (C : Cx T cl tys own cc nL ret Z) {i j : Nat} {z : Int} {x v : Int32} {lv' : List (Nat × Value)} (hdg : decode cc pc = .ok (.iinc i z, 3)) (hj : lv[j]? = some (i, .int x)) (hv : x + Int32.ofInt z = v) (hn : i < nL) (he : (i, Value.int v) :: lv.filter (fun q => !(q.1 == i) && !(q.1 + 1 == i && q.2.category == 2)) = lv') (kk : V cl nL R Z (pc + 3) lv' st M k n) : V cl nL R Z pc lv st M k n := fun H locs ls hl hm hS => lv_iinc C.1 C.2.1 hdg hl hj hv hn he (fun ls' hl' => kk H locs ls' hl' hm hS)
theorem v_iadd (C : Cx T cl tys own cc nL ret Z) {x y : Int32} (hdg : decode cc pc = .ok (.iadd, 1))  (kk : V cl nL R Z (pc + 1) lv (.int (x + y) :: st) M k n) : V cl nL R Z pc lv (.int y :: .int x :: st) M k n := fun H locs ls hl hm hS => lv_iadd C.1 C.2.1 hdg (kk H locs ls hl hm hS)
theorem v_isub (C : Cx T cl tys own cc nL ret Z) {x y : Int32} (hdg : decode cc pc = .ok (.isub, 1))  (kk : V cl nL R Z (pc + 1) lv (.int (x - y) :: st) M k n) : V cl nL R Z pc lv (.int y :: .int x :: st) M k n := fun H locs ls hl hm hS => lv_isub C.1 C.2.1 hdg (kk H locs ls hl hm hS)
theorem v_imul (C : Cx T cl tys own cc nL ret Z) {x y : Int32} (hdg : decode cc pc = .ok (.imul, 1))  (kk : V cl nL R Z (pc + 1) lv (.int (x * y) :: st) M k n) : V cl nL R Z pc lv (.int y :: .int x :: st) M k n := fun H locs ls hl hm hS => lv_imul C.1 C.2.1 hdg (kk H locs ls hl hm hS)
theorem v_iand (C : Cx T cl tys own cc nL ret Z) {x y : Int32} (hdg : decode cc pc = .ok (.iand, 1))  (kk : V cl nL R Z (pc + 1) lv (.int (x &&& y) :: st) M k n) : V cl nL R Z pc lv (.int y :: .int x :: st) M k n := fun H locs ls hl hm hS => lv_iand C.1 C.2.1 hdg (kk H locs ls hl hm hS)
theorem v_ior (C : Cx T cl tys own cc nL ret Z) {x y : Int32} (hdg : decode cc pc = .ok (.ior, 1))  (kk : V cl nL R Z (pc + 1) lv (.int (x ||| y) :: st) M k n) : V cl nL R Z pc lv (.int y :: .int x :: st) M k n := fun H locs ls hl hm hS => lv_ior C.1 C.2.1 hdg (kk H locs ls hl hm hS)
theorem v_ixor (C : Cx T cl tys own cc nL ret Z) {x y : Int32} (hdg : decode cc pc = .ok (.ixor, 1))  (kk : V cl nL R Z (pc + 1) lv (.int (x ^^^ y) :: st) M k n) : V cl nL R Z pc lv (.int y :: .int x :: st) M k n := fun H locs ls hl hm hS => lv_ixor C.1 C.2.1 hdg (kk H locs ls hl hm hS)
theorem v_idiv (C : Cx T cl tys own cc nL ret Z) {x y : Int32} (hdg : decode cc pc = .ok (.idiv, 1)) (hne : ¬ y = 0) (kk : V cl nL R Z (pc + 1) lv (.int (x / y) :: st) M k n) : V cl nL R Z pc lv (.int y :: .int x :: st) M k n := fun H locs ls hl hm hS => lv_idiv C.1 C.2.1 hdg hne (kk H locs ls hl hm hS)
theorem v_irem (C : Cx T cl tys own cc nL ret Z) {x y : Int32} (hdg : decode cc pc = .ok (.irem, 1)) (hne : ¬ y = 0) (kk : V cl nL R Z (pc + 1) lv (.int (x - x / y * y) :: st) M k n) : V cl nL R Z pc lv (.int y :: .int x :: st) M k n := fun H locs ls hl hm hS => lv_irem C.1 C.2.1 hdg hne (kk H locs ls hl hm hS)
theorem v_ineg (C : Cx T cl tys own cc nL ret Z) {x : Int32} (hdg : decode cc pc = .ok (.ineg, 1))  (kk : V cl nL R Z (pc + 1) lv (.int (-x) :: st) M k n) : V cl nL R Z pc lv (.int x :: st) M k n := fun H locs ls hl hm hS => lv_ineg C.1 C.2.1 hdg (kk H locs ls hl hm hS)
theorem v_ladd (C : Cx T cl tys own cc nL ret Z) {x y : Int64} (hdg : decode cc pc = .ok (.ladd, 1))  (kk : V cl nL R Z (pc + 1) lv (.long (x + y) :: st) M k n) : V cl nL R Z pc lv (.long y :: .long x :: st) M k n := fun H locs ls hl hm hS => lv_ladd C.1 C.2.1 hdg (kk H locs ls hl hm hS)
theorem v_lsub (C : Cx T cl tys own cc nL ret Z) {x y : Int64} (hdg : decode cc pc = .ok (.lsub, 1))  (kk : V cl nL R Z (pc + 1) lv (.long (x - y) :: st) M k n) : V cl nL R Z pc lv (.long y :: .long x :: st) M k n := fun H locs ls hl hm hS => lv_lsub C.1 C.2.1 hdg (kk H locs ls hl hm hS)
theorem v_lmul (C : Cx T cl tys own cc nL ret Z) {x y : Int64} (hdg : decode cc pc = .ok (.lmul, 1))  (kk : V cl nL R Z (pc + 1) lv (.long (x * y) :: st) M k n) : V cl nL R Z pc lv (.long y :: .long x :: st) M k n := fun H locs ls hl hm hS => lv_lmul C.1 C.2.1 hdg (kk H locs ls hl hm hS)
theorem v_i2l (C : Cx T cl tys own cc nL ret Z) {x : Int32} {v : Int64} (hdg : decode cc pc = .ok (.i2l, 1)) (hv : x.toInt64 = v) (kk : V cl nL R Z (pc + 1) lv (.long v :: st) M k n) : V cl nL R Z pc lv (.int x :: st) M k n := fun H locs ls hl hm hS => lv_i2l C.1 C.2.1 hdg hv (kk H locs ls hl hm hS)
theorem v_l2i (C : Cx T cl tys own cc nL ret Z) {x : Int64} {v : Int32} (hdg : decode cc pc = .ok (.l2i, 1)) (hv : x.toInt32 = v) (kk : V cl nL R Z (pc + 1) lv (.int v :: st) M k n) : V cl nL R Z pc lv (.long x :: st) M k n := fun H locs ls hl hm hS => lv_l2i C.1 C.2.1 hdg hv (kk H locs ls hl hm hS)
theorem v_lcmp (C : Cx T cl tys own cc nL ret Z) {x y : Int64} (hdg : decode cc pc = .ok (.lcmp, 1)) (kk : V cl nL R Z (pc + 1) lv (.int (lg_cmp x y) :: st) M k n) : V cl nL R Z pc lv (.long y :: .long x :: st) M k n := fun H locs ls hl hm hS => W.lcmp C.1 C.2.1 hdg (kk H locs ls hl hm hS)
theorem v_dup (C : Cx T cl tys own cc nL ret Z) {va : Value} (hdg : decode cc pc = .ok (.dup, 1)) (h1 : va.category = 1) (kk : V cl nL R Z (pc + 1) lv (va :: va :: st) M k n) : V cl nL R Z pc lv (va :: st) M k n := fun H locs ls hl hm hS => lv_dup C.1 C.2.1 hdg h1 (kk H locs ls hl hm hS)
theorem v_pop (C : Cx T cl tys own cc nL ret Z) {va : Value} (hdg : decode cc pc = .ok (.pop, 1)) (h1 : va.category = 1) (kk : V cl nL R Z (pc + 1) lv st M k n) : V cl nL R Z pc lv (va :: st) M k n := fun H locs ls hl hm hS => lv_pop C.1 C.2.1 hdg h1 (kk H locs ls hl hm hS)
theorem v_dup_x1 (C : Cx T cl tys own cc nL ret Z) {va vb : Value} (hdg : decode cc pc = .ok (.dup_x1, 1)) (h1 : va.category = 1) (h2 : vb.category = 1) (kk : V cl nL R Z (pc + 1) lv (va :: vb :: va :: st) M k n) : V cl nL R Z pc lv (va :: vb :: st) M k n := fun H locs ls hl hm hS => lv_dup_x1 C.1 C.2.1 hdg h1 h2 (kk H locs ls hl hm hS)
theorem v_dup_x2 (C : Cx T cl tys own cc nL ret Z) {va vb vd : Value} (hdg : decode cc pc = .ok (.dup_x2, 1)) (h1 : va.category = 1) (h2 : vb.category = 1) (h3 : vd.category = 1) (kk : V cl nL R Z (pc + 1) lv (va :: vb :: vd :: va :: st) M k n) : V cl nL R Z pc lv (va :: vb :: vd :: st) M k n := fun H locs ls hl hm hS => lv_dup_x2 C.1 C.2.1 hdg h1 h2 h3 (kk H locs ls hl hm hS)
theorem v_dup2_11 (C : Cx T cl tys own cc nL ret Z) {va vb : Value} (hdg : decode cc pc = .ok (.dup2, 1)) (h1 : va.category = 1) (h2 : vb.category = 1) (kk : V cl nL R Z (pc + 1) lv (va :: vb :: va :: vb :: st) M k n) : V cl nL R Z pc lv (va :: vb :: st) M k n := fun H locs ls hl hm hS => lv_dup2_11 C.1 C.2.1 hdg h1 h2 (kk H locs ls hl hm hS)
theorem v_null (C : Cx T cl tys own cc nL ret Z)  (hdg : decode cc pc = .ok (.aconst_null, 1))  (kk : V cl nL R Z (pc + 1) lv (.null :: st) M k n) : V cl nL R Z pc lv st M k n := fun H locs ls hl hm hS => lv_null C.1 C.2.1 hdg (kk H locs ls hl hm hS)
theorem v_ifnull (C : Cx T cl tys own cc nL ret Z) {x : Nat} {off : Int} (hdg : decode cc pc = .ok (.ifnull off, 3))  (kk : V cl nL R Z (pc + 3) lv st M k n) : V cl nL R Z pc lv (.ref x :: st) M k n := fun H locs ls hl hm hS => lv_ifnull C.1 C.2.1 hdg (kk H locs ls hl hm hS)
theorem v_ifnonnullN (C : Cx T cl tys own cc nL ret Z) {off : Int} (hdg : decode cc pc = .ok (.ifnonnull off, 3))  (kk : V cl nL R Z (pc + 3) lv st M k n) : V cl nL R Z pc lv (.null :: st) M k n := fun H locs ls hl hm hS => lv_ifnonnullN C.1 C.2.1 hdg (kk H locs ls hl hm hS)
theorem v_goto (C : Cx T cl tys own cc nL ret Z)  {off : Int} (tgt : Nat) (hdg : decode cc pc = .ok (.goto off, 3)) (ht : (pc : Int) + off = (tgt : Int)) (kk : V cl nL R Z tgt lv st M k n) : V cl nL R Z pc lv st M k n := fun H locs ls hl hm hS => lv_goto C.1 C.2.1 hdg ht (kk H locs ls hl hm hS)
theorem v_ifnonnull (C : Cx T cl tys own cc nL ret Z) {x : Nat} {off : Int} (tgt : Nat) (hdg : decode cc pc = .ok (.ifnonnull off, 3)) (ht : (pc : Int) + off = (tgt : Int)) (kk : V cl nL R Z tgt lv st M k n) : V cl nL R Z pc lv (.ref x :: st) M k n := fun H locs ls hl hm hS => lv_ifnonnull C.1 C.2.1 hdg ht (kk H locs ls hl hm hS)
theorem v_ifnullN (C : Cx T cl tys own cc nL ret Z)  {off : Int} (tgt : Nat) (hdg : decode cc pc = .ok (.ifnull off, 3)) (ht : (pc : Int) + off = (tgt : Int)) (kk : V cl nL R Z tgt lv st M k n) : V cl nL R Z pc lv (.null :: st) M k n := fun H locs ls hl hm hS => lv_ifnullN C.1 C.2.1 hdg ht (kk H locs ls hl hm hS)
theorem v_if_eq (C : Cx T cl tys own cc nL ret Z) {x : Int32} {off : Int} (tgt : Nat) (hdg : decode cc pc = .ok (.ifCond .eq off, 3)) (ht : (pc : Int) + off = (tgt : Int)) (kt : x = 0 → V cl nL R Z tgt lv st M k n) (kf : ¬ x = 0 → V cl nL R Z (pc + 3) lv st M k n) : V cl nL R Z pc lv (.int x :: st) M k n := fun H locs ls hl hm hS => lv_if_eq C.1 C.2.1 hdg ht (fun q => kt q H locs ls hl hm hS) (fun q => kf q H locs ls hl hm hS)
theorem v_if_lt (C : Cx T cl tys own cc nL ret Z) {x : Int32} {off : Int} (tgt : Nat) (hdg : decode cc pc = .ok (.ifCond .lt off, 3)) (ht : (pc : Int) + off = (tgt : Int)) (kt : x < 0 → V cl nL R Z tgt lv st M k n) (kf : ¬ x < 0 → V cl nL R Z (pc + 3) lv st M k n) : V cl nL R Z pc lv (.int x :: st) M k n := fun H locs ls hl hm hS => lv_if_lt C.1 C.2.1 hdg ht (fun q => kt q H locs ls hl hm hS) (fun q => kf q H locs ls hl hm hS)
theorem v_if_ge (C : Cx T cl tys own cc nL ret Z) {x : Int32} {off : Int} (tgt : Nat) (hdg : decode cc pc = .ok (.ifCond .ge off, 3)) (ht : (pc : Int) + off = (tgt : Int)) (kt : 0 ≤ x → V cl nL R Z tgt lv st M k n) (kf : ¬ 0 ≤ x → V cl nL R Z (pc + 3) lv st M k n) : V cl nL R Z pc lv (.int x :: st) M k n := fun H locs ls hl hm hS => lv_if_ge C.1 C.2.1 hdg ht (fun q => kt q H locs ls hl hm hS) (fun q => kf q H locs ls hl hm hS)
theorem v_if_gt (C : Cx T cl tys own cc nL ret Z) {x : Int32} {off : Int} (tgt : Nat) (hdg : decode cc pc = .ok (.ifCond .gt off, 3)) (ht : (pc : Int) + off = (tgt : Int)) (kt : 0 < x → V cl nL R Z tgt lv st M k n) (kf : ¬ 0 < x → V cl nL R Z (pc + 3) lv st M k n) : V cl nL R Z pc lv (.int x :: st) M k n := fun H locs ls hl hm hS => lv_if_gt C.1 C.2.1 hdg ht (fun q => kt q H locs ls hl hm hS) (fun q => kf q H locs ls hl hm hS)
theorem v_if_le (C : Cx T cl tys own cc nL ret Z) {x : Int32} {off : Int} (tgt : Nat) (hdg : decode cc pc = .ok (.ifCond .le off, 3)) (ht : (pc : Int) + off = (tgt : Int)) (kt : x ≤ 0 → V cl nL R Z tgt lv st M k n) (kf : ¬ x ≤ 0 → V cl nL R Z (pc + 3) lv st M k n) : V cl nL R Z pc lv (.int x :: st) M k n := fun H locs ls hl hm hS => lv_if_le C.1 C.2.1 hdg ht (fun q => kt q H locs ls hl hm hS) (fun q => kf q H locs ls hl hm hS)
theorem v_if_ne (C : Cx T cl tys own cc nL ret Z) {x : Int32} {off : Int} (tgt : Nat) (hdg : decode cc pc = .ok (.ifCond .ne off, 3)) (ht : (pc : Int) + off = (tgt : Int)) (kt : ¬ x = 0 → V cl nL R Z tgt lv st M k n) (kf : x = 0 → V cl nL R Z (pc + 3) lv st M k n) : V cl nL R Z pc lv (.int x :: st) M k n := fun H locs ls hl hm hS => lv_if_ne C.1 C.2.1 hdg ht (fun q => kt q H locs ls hl hm hS) (fun q => kf q H locs ls hl hm hS)
theorem v_icmp_eq (C : Cx T cl tys own cc nL ret Z) {x y : Int32} {off : Int} (tgt : Nat) (hdg : decode cc pc = .ok (.if_icmp .eq off, 3)) (ht : (pc : Int) + off = (tgt : Int)) (kt : x = y → V cl nL R Z tgt lv st M k n) (kf : ¬ x = y → V cl nL R Z (pc + 3) lv st M k n) : V cl nL R Z pc lv (.int y :: .int x :: st) M k n := fun H locs ls hl hm hS => lv_icmp_eq C.1 C.2.1 hdg ht (fun q => kt q H locs ls hl hm hS) (fun q => kf q H locs ls hl hm hS)
theorem v_icmp_lt (C : Cx T cl tys own cc nL ret Z) {x y : Int32} {off : Int} (tgt : Nat) (hdg : decode cc pc = .ok (.if_icmp .lt off, 3)) (ht : (pc : Int) + off = (tgt : Int)) (kt : x < y → V cl nL R Z tgt lv st M k n) (kf : ¬ x < y → V cl nL R Z (pc + 3) lv st M k n) : V cl nL R Z pc lv (.int y :: .int x :: st) M k n := fun H locs ls hl hm hS => lv_icmp_lt C.1 C.2.1 hdg ht (fun q => kt q H locs ls hl hm hS) (fun q => kf q H locs ls hl hm hS)
theorem v_icmp_ge (C : Cx T cl tys own cc nL ret Z) {x y : Int32} {off : Int} (tgt : Nat) (hdg : decode cc pc = .ok (.if_icmp .ge off, 3)) (ht : (pc : Int) + off = (tgt : Int)) (kt : y ≤ x → V cl nL R Z tgt lv st M k n) (kf : ¬ y ≤ x → V cl nL R Z (pc + 3) lv st M k n) : V cl nL R Z pc lv (.int y :: .int x :: st) M k n := fun H locs ls hl hm hS => lv_icmp_ge C.1 C.2.1 hdg ht (fun q => kt q H locs ls hl hm hS) (fun q => kf q H locs ls hl hm hS)
theorem v_icmp_gt (C : Cx T cl tys own cc nL ret Z) {x y : Int32} {off : Int} (tgt : Nat) (hdg : decode cc pc = .ok (.if_icmp .gt off, 3)) (ht : (pc : Int) + off = (tgt : Int)) (kt : y < x → V cl nL R Z tgt lv st M k n) (kf : ¬ y < x → V cl nL R Z (pc + 3) lv st M k n) : V cl nL R Z pc lv (.int y :: .int x :: st) M k n := fun H locs ls hl hm hS => lv_icmp_gt C.1 C.2.1 hdg ht (fun q => kt q H locs ls hl hm hS) (fun q => kf q H locs ls hl hm hS)
theorem v_icmp_le (C : Cx T cl tys own cc nL ret Z) {x y : Int32} {off : Int} (tgt : Nat) (hdg : decode cc pc = .ok (.if_icmp .le off, 3)) (ht : (pc : Int) + off = (tgt : Int)) (kt : x ≤ y → V cl nL R Z tgt lv st M k n) (kf : ¬ x ≤ y → V cl nL R Z (pc + 3) lv st M k n) : V cl nL R Z pc lv (.int y :: .int x :: st) M k n := fun H locs ls hl hm hS => lv_icmp_le C.1 C.2.1 hdg ht (fun q => kt q H locs ls hl hm hS) (fun q => kf q H locs ls hl hm hS)
theorem v_icmp_ne (C : Cx T cl tys own cc nL ret Z) {x y : Int32} {off : Int} (tgt : Nat) (hdg : decode cc pc = .ok (.if_icmp .ne off, 3)) (ht : (pc : Int) + off = (tgt : Int)) (kt : ¬ x = y → V cl nL R Z tgt lv st M k n) (kf : x = y → V cl nL R Z (pc + 3) lv st M k n) : V cl nL R Z pc lv (.int y :: .int x :: st) M k n := fun H locs ls hl hm hS => lv_icmp_ne C.1 C.2.1 hdg ht (fun q => kt q H locs ls hl hm hS) (fun q => kf q H locs ls hl hm hS)
theorem v_tableOut (C : Cx T cl tys own cc nL ret Z) {dflt lo hi : Int} {offs : Array Int} {len : Nat} {x : Int32} (tgt : Nat) (hdg : decode cc pc = .ok (.tableswitch dflt lo hi offs, len)) (h : x.toInt < lo ∨ hi < x.toInt) (ht : (pc : Int) + dflt = (tgt : Int)) (kk : V cl nL R Z tgt lv st M k n) : V cl nL R Z pc lv (.int x :: st) M k n := fun H locs ls hl hm hS => lv_tableOut C.1 C.2.1 hdg h ht (kk H locs ls hl hm hS)
theorem v_tableIn (C : Cx T cl tys own cc nL ret Z) {dflt lo hi : Int} {offs : Array Int} {len : Nat} {x : Int32} {off : Int} (tgt : Nat) (hdg : decode cc pc = .ok (.tableswitch dflt lo hi offs, len)) (h1 : ¬ x.toInt < lo) (h2 : ¬ hi < x.toInt) (ho : offs[(x.toInt - lo).toNat]? = some off) (ht : (pc : Int) + off = (tgt : Int)) (kk : V cl nL R Z tgt lv st M k n) : V cl nL R Z pc lv (.int x :: st) M k n := fun H locs ls hl hm hS => lv_tableIn C.1 C.2.1 hdg h1 h2 ho ht (kk H locs ls hl hm hS)
theorem v_lookup (C : Cx T cl tys own cc nL ret Z) {dflt : Int} {ps : Array (Int × Int)} {len : Nat} {x : Int32} {off : Int} (tgt : Nat) (hdg : decode cc pc = .ok (.lookupswitch dflt ps, len)) (hp : (ps.toList.zip (ps.toList.drop 1)).all (fun (a, next) => a.1 < next.1) = true) (ho : Op.lookupswitch.offset ps.toList dflt x.toInt = off) (ht : (pc : Int) + off = (tgt : Int)) (kk : V cl nL R Z tgt lv st M k n) : V cl nL R Z pc lv (.int x :: st) M k n := fun H locs ls hl hm hS => lv_lookup C.1 C.2.1 hdg hp ho ht (kk H locs ls hl hm hS)
theorem v_ldc (C : Cx T cl tys own cc nL ret Z) {i : Nat} {v : Int32} (hdg : decode cc pc = .ok (.ldc i, 2)) (hw : Cond.constant own i v ∈ T) (kk : V cl nL R Z (pc + 2) lv (.int v :: st) M k n) : V cl nL R Z pc lv st M k n := fun H locs ls hl hm hS => lv_ldc C.1 C.2.1 C.2.2.2.1 (C.2.2.2.2.2.2.2.2.2 _ hw Z.args) hdg (kk H locs ls hl hm hS)
theorem v_ldcw (C : Cx T cl tys own cc nL ret Z) {i : Nat} {v : Int32} (hdg : decode cc pc = .ok (.ldc_w i, 3)) (hw : Cond.constant own i v ∈ T) (kk : V cl nL R Z (pc + 3) lv (.int v :: st) M k n) : V cl nL R Z pc lv st M k n := fun H locs ls hl hm hS => lv_ldcw C.1 C.2.1 C.2.2.2.1 (C.2.2.2.2.2.2.2.2.2 _ hw Z.args) hdg (kk H locs ls hl hm hS)
theorem v_ldc2 (C : Cx T cl tys own cc nL ret Z) {i : Nat} {v : Int64} (hdg : decode cc pc = .ok (.ldc2_w i, 3)) (hw : Cond.constantLong own i v ∈ T) (kk : V cl nL R Z (pc + 3) lv (.long v :: st) M k n) : V cl nL R Z pc lv st M k n := fun H locs ls hl hm hS => lv_ldc2 C.1 C.2.1 C.2.2.2.1 (C.2.2.2.2.2.2.2.2.2 _ hw Z.args) hdg (kk H locs ls hl hm hS)
theorem v_get (C : Cx T cl tys own cc nL ret Z) {ref Cn : String} {Tf : u_T} {N ci index a : Nat} (hin : ∀ w ∈ u_ws Cn Tf N, w ∈ T) {fs : List Value} (he : M a = some (ob ci fs)) (hc : cl[ci]? = some (Cn, Tf, N)) (j : Nat) (hj : j < N) (hlink : Cond.fieldLink own index ref (Tf j).2.1 (Tf j).2.2.1 ∈ T) (hsame : (Tf j).1 = ref) {v : Value} (hv : fs[j]? = some v) (hdg : decode cc pc = .ok (.getfield index, 3)) (kk : V cl nL R Z (pc + 3) lv (v :: st) M k n) : V cl nL R Z pc lv (.ref a :: st) M k n := fun H locs ls hl hm hS =>
  va_get C.1 C.2.1 (fun w h => C.2.2.2.2.2.2.2.2.2 w h Z.args) hin C.2.2.2.1 C.2.2.2.2.2.2.2.2.1 (hm.one he) 0 rfl hc j hj (C.2.2.2.2.2.2.2.2.2 _ hlink Z.args) (fun _ h => by rw [← hsame]; exact h) hv hdg (kk H locs ls hl hm hS)
theorem v_put (C : Cx T cl tys own cc nL ret Z) {ref Cn : String} {Tf : u_T} {N ci index a : Nat} (hin : ∀ w ∈ u_ws Cn Tf N, w ∈ T) (ty0 : Nat → FieldType) (hty : ∀ j, j < N → parseFieldDescriptor (Tf j).2.2.1 = some (ty0 j)) (hnm : ∀ a, a < N → ∀ b, b < N → a ≠ b → (Tf a).2.1 ≠ (Tf b).2.1) {fs fs' : List Value} (he : M a = some (ob ci fs)) (hc : cl[ci]? = some (Cn, Tf, N)) (j : Nat) (hj : j < N) (hlink : Cond.fieldLink own index ref (Tf j).2.1 (Tf j).2.2.1 ∈ T) (hsame : (Tf j).1 = ref) (hfin : (Tf j).2.2.2 = false) {v : Value} (hn : narrow (ty0 j) v = v) (hfit : fits (ty0 j) v = true) (hl : j < fs.length) (hset : fs.set j v = fs') (hdg : decode cc pc = .ok (.putfield index, 3)) (kk : V cl nL R Z (pc + 3) lv st (mset M a (ob ci fs')) k n) : V cl nL R Z pc lv (v :: .ref a :: st) M k n := by
  subst hset
  intro H locs ls hl0 hm hS0
  have hexec := C.1
  have hb := C.2.1
  have hown := C.2.2.2.1
  have hts : ∀ w ∈ T, w.before Z.args Z.s = true := fun w h => C.2.2.2.2.2.2.2.2.2 w h Z.args
  have hK := C.2.2.2.2.2.2.2.2.1
  have hlink := hts _ hlink
  have hsame : ∀ x, Z.s.fieldFound? (Tf j).1 (Tf j).2.1 (Tf j).2.2.1 = some x → Z.s.fieldFound? ref (Tf j).2.1 (Tf j).2.2.1 = some x := fun _ h => by rw [← hsame]; exact h
  have hap := va_apart (own := own) hts hin ty0 hty hnm hK hc
  obtain ⟨r, h1, cell, q1, q2, q3, q4⟩ := (hm a _ he).2
  have hr : r = (Cn, Tf, N) := Option.some.inj (h1.symm.trans hc)
  subst hr
  obtain ⟨hS, hfc, kC, hkC, hkind⟩ := hK.1 ci _ hc
  obtain ⟨cf, kf, fi, f, hi, hsl⟩ := hS j hj
  have hlay := hts _ (hin _ (u_in_lay hj))
  unfold u_lay at hlay
  rw [if_neg (by rw [hfin]; decide)] at hlay
  have hst := (u_facts hfc hkC (u_lays hts hin hj) hi).1
  have h6 := u_store hfc hkC hkind hlay hi (hty j hj) hn hfit
  refine W.putK hexec hb (f := f) ⟨hown, hlink, ⟨_, _, _, hsame _ hi⟩, hst⟩ (by rw [q2]; exact h6) q1 q3 (by rw [hsl]; exact k2_hasslot (q4 j hj)) rfl rfl hdg fun H' e1 e2 e3 => ?_
  rw [hsl] at e1 ⊢
  exact kk H' _ ls hl0 (hm.set (hm a _ he).1 ⟨_, hc, t_OB.to (V := updV (vp_V fs) j v) ⟨_, e1, q2, q3, t_set q4 hap hj v⟩ (fun i _ => vp_updV_set hl v i)⟩ e3) (hS0.put e2 e3 (hm a _ he).1)
theorem v_getN (C : Cx T cl tys own cc nL ret Z) {ref Cn host : String} {Tf : u_T} {N ci index a : Nat} (hin : ∀ w ∈ u_ws Cn Tf N, w ∈ T) {fs : List Value} (he : M a = some (ob ci fs)) (hc : cl[ci]? = some (Cn, Tf, N)) (j : Nat) (hj : j < N) (hlink : Cond.fieldLinkNest own index ref (Tf j).2.1 (Tf j).2.2.1 host ∈ T) (hsame : (Tf j).1 = ref) {v : Value} (hv : fs[j]? = some v) (hdg : decode cc pc = .ok (.getfield index, 3)) (kk : V cl nL R Z (pc + 3) lv (v :: st) M k n) : V cl nL R Z pc lv (.ref a :: st) M k n := fun H locs ls hl hm hS =>
  va_getN C.1 C.2.1 (fun w h => C.2.2.2.2.2.2.2.2.2 w h Z.args) hin C.2.2.2.1 C.2.2.2.2.2.2.2.2.1 (hm.one he) 0 rfl hc j hj (C.2.2.2.2.2.2.2.2.2 _ hlink Z.args) (fun _ h => by rw [← hsame]; exact h) hv hdg (kk H locs ls hl hm hS)
theorem v_putN (C : Cx T cl tys own cc nL ret Z) {ref Cn host : String} {Tf : u_T} {N ci index a : Nat} (hin : ∀ w ∈ u_ws Cn Tf N, w ∈ T) (ty0 : Nat → FieldType) (hty : ∀ j, j < N → parseFieldDescriptor (Tf j).2.2.1 = some (ty0 j)) (hnm : ∀ a, a < N → ∀ b, b < N → a ≠ b → (Tf a).2.1 ≠ (Tf b).2.1) {fs fs' : List Value} (he : M a = some (ob ci fs)) (hc : cl[ci]? = some (Cn, Tf, N)) (j : Nat) (hj : j < N) (hlink : Cond.fieldLinkNest own index ref (Tf j).2.1 (Tf j).2.2.1 host ∈ T) (hsame : (Tf j).1 = ref) (hfin : (Tf j).2.2.2 = false) {v : Value} (hn : narrow (ty0 j) v = v) (hfit : fits (ty0 j) v = true) (hl : j < fs.length) (hset : fs.set j v = fs') (hdg : decode cc pc = .ok (.putfield index, 3)) (kk : V cl nL R Z (pc + 3) lv st (mset M a (ob ci fs')) k n) : V cl nL R Z pc lv (v :: .ref a :: st) M k n := by
  subst hset
  intro H locs ls hl0 hm hS0
  have hexec := C.1
  have hb := C.2.1
  have hown := C.2.2.2.1
  have hts : ∀ w ∈ T, w.before Z.args Z.s = true := fun w h => C.2.2.2.2.2.2.2.2.2 w h Z.args
  have hK := C.2.2.2.2.2.2.2.2.1
  have hlink := hts _ hlink
  have hsame : ∀ x, Z.s.fieldFound? (Tf j).1 (Tf j).2.1 (Tf j).2.2.1 = some x → Z.s.fieldFound? ref (Tf j).2.1 (Tf j).2.2.1 = some x := fun _ h => by rw [← hsame]; exact h
  have hap := va_apart (own := own) hts hin ty0 hty hnm hK hc
  obtain ⟨r, h1, cell, q1, q2, q3, q4⟩ := (hm a _ he).2
  have hr : r = (Cn, Tf, N) := Option.some.inj (h1.symm.trans hc)
  subst hr
  obtain ⟨hS, hfc, kC, hkC, hkind⟩ := hK.1 ci _ hc
  obtain ⟨cf, kf, fi, f, hi, hsl⟩ := hS j hj
  have hlay := hts _ (hin _ (u_in_lay hj))
  unfold u_lay at hlay
  rw [if_neg (by rw [hfin]; decide)] at hlay
  have hst := (u_facts hfc hkC (u_lays hts hin hj) hi).1
  have h6 := u_store hfc hkC hkind hlay hi (hty j hj) hn hfit
  refine va_WputK hexec hb (f := f) hown hlink (hsame _ hi) hst (by rw [q2]; exact h6) q1 q3 (by rw [hsl]; exact k2_hasslot (q4 j hj)) rfl rfl hdg fun H' e1 e2 e3 => ?_
  rw [hsl] at e1 ⊢
  exact kk H' _ ls hl0 (hm.set (hm a _ he).1 ⟨_, hc, t_OB.to (V := updV (vp_V fs) j v) ⟨_, e1, q2, q3, t_set q4 hap hj v⟩ (fun i _ => vp_updV_set hl v i)⟩ e3) (hS0.put e2 e3 (hm a _ he).1)
theorem v_putF (C : Cx T cl tys own cc nL ret Z) {ref Cn : String} {Tf : u_T} {N ci index a : Nat} (hin : ∀ w ∈ u_ws Cn Tf N, w ∈ T) (ty0 : Nat → FieldType) (hty : ∀ j, j < N → parseFieldDescriptor (Tf j).2.2.1 = some (ty0 j)) (hnm : ∀ a, a < N → ∀ b, b < N → a ≠ b → (Tf a).2.1 ≠ (Tf b).2.1) {fs fs' : List Value} (he : M a = some (ob ci fs)) (hc : cl[ci]? = some (Cn, Tf, N)) (j : Nat) (hj : j < N) (hlink : Cond.fieldLink own index ref (Tf j).2.1 (Tf j).2.2.1 ∈ T) (hsame : (Tf j).1 = ref) (hfin : (Tf j).2.2.2 = true) (hin2 : Z.meth.name = "<init>") (hdecl : (Tf j).1 = own) {v : Value} (hn : narrow (ty0 j) v = v) (hfit : fits (ty0 j) v = true) (hl : j < fs.length) (hset : fs.set j v = fs') (hdg : decode cc pc = .ok (.putfield index, 3)) (kk : V cl nL R Z (pc + 3) lv st (mset M a (ob ci fs')) k n) : V cl nL R Z pc lv (v :: .ref a :: st) M k n := by
  subst hset
  intro H locs ls hl0 hm hS0
  have hexec := C.1
  have hb := C.2.1
  have hown := C.2.2.2.1
  have hts : ∀ w ∈ T, w.before Z.args Z.s = true := fun w h => C.2.2.2.2.2.2.2.2.2 w h Z.args
  have hK := C.2.2.2.2.2.2.2.2.1
  have hlink := hts _ hlink
  have hsame : ∀ x, Z.s.fieldFound? (Tf j).1 (Tf j).2.1 (Tf j).2.2.1 = some x → Z.s.fieldFound? ref (Tf j).2.1 (Tf j).2.2.1 = some x := fun _ h => by rw [← hsame]; exact h
  have hap := va_apart (own := own) hts hin ty0 hty hnm hK hc
  obtain ⟨r, h1, cell, q1, q2, q3, q4⟩ := (hm a _ he).2
  have hr : r = (Cn, Tf, N) := Option.some.inj (h1.symm.trans hc)
  subst hr
  obtain ⟨hS, hfc, kC, hkC, hkind⟩ := hK.1 ci _ hc
  obtain ⟨cf, kf, fi, f, hi, hsl⟩ := hS j hj
  have hlay := hts _ (hin _ (u_in_lay hj))
  unfold u_lay at hlay
  rw [if_pos hfin] at hlay
  have hst := (u_facts hfc hkC (u_lays hts hin hj) hi).1
  have hcf : Z.m.cls = cf := by
    obtain ⟨_, _, c', _, _, _, -, -, hf', -, -, -, hown2, -⟩ := Cond.laysFinal_spec hlay
    have e1 : c' = cf := by have := hi.symm.trans hf'; simp at this; exact this.1.symm
    rw [hdecl] at hown2
    rw [← e1]; exact Option.some.inj (hown.symm.trans hown2)
  have h6 := u_fits hfc hkC hkind (Or.inr hlay) hi (hty j hj) hn hfit
  refine W.putFinK hexec hb hown hlink (hsame _ hi) hst hcf hin2 (by rw [q2]; exact h6) q1 q3 (by rw [hsl]; exact k2_hasslot (q4 j hj)) rfl rfl hdg fun H' e1 e2 e3 => ?_
  rw [hsl] at e1 ⊢
  exact kk H' _ ls hl0 (hm.set (hm a _ he).1 ⟨_, hc, t_OB.to (V := updV (vp_V fs) j v) ⟨_, e1, q2, q3, t_set q4 hap hj v⟩ (fun i _ => vp_updV_set hl v i)⟩ e3) (hS0.put e2 e3 (hm a _ he).1)
theorem v_iald (C : Cx T cl tys own cc nL ret Z) {a : Nat} (t0 : Nat) {cA : ClassId} {N : Nat} {f : Nat → Int32} (he : M a = some (aI cA N f)) (ht : tys[t0]? = some (cA, .int)) {i : Int32} (hin : vp_in i N) (hdg : decode cc pc = .ok (.iaload, 1)) (kk : V cl nL R Z (pc + 1) lv (.int (f i.toNatClampNeg) :: st) M k n) : V cl nL R Z pc lv (.int i :: .ref a :: st) M k n := fun H locs ls hl hm hS => va_iald C.1 C.2.1 C.2.2.2.2.2.2.2.2.1 (hm.one he) 0 t0 rfl ht hin hdg (kk H locs ls hl hm hS)
theorem v_lald (C : Cx T cl tys own cc nL ret Z) {a : Nat} (t0 : Nat) {cA : ClassId} {N : Nat} {f : Nat → Int64} (he : M a = some (aL cA N f)) (ht : tys[t0]? = some (cA, .long)) {i : Int32} (hin : vp_in i N) (hdg : decode cc pc = .ok (.laload, 1)) (kk : V cl nL R Z (pc + 1) lv (.long (f i.toNatClampNeg) :: st) M k n) : V cl nL R Z pc lv (.int i :: .ref a :: st) M k n := fun H locs ls hl hm hS => va_lald C.1 C.2.1 C.2.2.2.2.2.2.2.2.1 (hm.one he) 0 t0 rfl ht hin hdg (kk H locs ls hl hm hS)
theorem v_aldq (C : Cx T cl tys own cc nL ret Z) {a : Nat} (t0 : Nat) {cA : ClassId} {Cn : String} {N : Nat} {f : Nat → Option Nat} (he : M a = some (aQ cA N f)) (ht : tys[t0]? = some (cA, .object Cn)) {i : Int32} (hin : vp_in i N) {v : Value} (hv : va_rf (f i.toNatClampNeg) = v) (hdg : decode cc pc = .ok (.aaload, 1)) (kk : V cl nL R Z (pc + 1) lv (v :: st) M k n) : V cl nL R Z pc lv (.int i :: .ref a :: st) M k n := fun H locs ls hl hm hS => va_aldq C.1 C.2.1 C.2.2.2.2.2.2.2.2.1 (hm.one he) 0 t0 rfl ht hin hdg (by rw [hv]; exact kk H locs ls hl hm hS)
theorem v_alen (C : Cx T cl tys own cc nL ret Z) {a : Nat} (t0 : Nat) {cA : ClassId} {x : vp_A} (he : M a = some (.inl (cA, x))) {ty : FieldType} (ht : tys[t0]? = some (cA, ty)) {v : Int32} (hv : Int32.ofNat x.1 = v) (hdg : decode cc pc = .ok (.arraylength, 1)) (kk : V cl nL R Z (pc + 1) lv (.int v :: st) M k n) : V cl nL R Z pc lv (.ref a :: st) M k n := fun H locs ls hl hm hS => va_alen C.1 C.2.1 C.2.2.2.2.2.2.2.2.1 (hm.one he) 0 t0 rfl ht hv hdg (kk H locs ls hl hm hS)
theorem v_iast (C : Cx T cl tys own cc nL ret Z) {a : Nat} (t0 : Nat) {cA : ClassId} {N : Nat} {f : Nat → Int32} (he : M a = some (aI cA N f)) (ht : tys[t0]? = some (cA, .int)) {i x : Int32} (hin : vp_in i N) (hdg : decode cc pc = .ok (.iastore, 1)) (kk : V cl nL R Z (pc + 1) lv st (mset M a (aI cA N (upd f i.toNatClampNeg x))) k n) : V cl nL R Z pc lv (.int x :: .int i :: .ref a :: st) M k n := by
  intro H locs ls hl hm hS
  refine W.iast C.1 C.2.1 (hm a _ he).2 ((C.2.2.2.2.2.2.2.2.1.2 t0 _ ht).1 N (fun j => .int (f j))) (fun q => by cases q) (by show ¬ (i < 0 ∨ (arrV _ _ _).slots.size ≤ _); rw [arrV_size]; exact hin) rfl rfl hdg fun H1 e1 z oq => ?_
  refine kk H1 _ ls hl (hm.set (hm a _ he).1 ?_ oq) (hS.put z oq (hm a _ he).1)
  show H1[a]? = some (vp_cell _ _)
  rw [e1, vp_cell_i, vp_cell_i, arrV_store]
  congr 2
  funext q
  by_cases hq : q = i.toNatClampNeg
  · subst hq
    simp [updV, upd]
  · simp [updV, upd, hq]
theorem v_last (C : Cx T cl tys own cc nL ret Z) {a : Nat} (t0 : Nat) {cA : ClassId} {N : Nat} {f : Nat → Int64} (he : M a = some (aL cA N f)) (ht : tys[t0]? = some (cA, .long)) {i : Int32} {x : Int64} (hin : vp_in i N) (hdg : decode cc pc = .ok (.lastore, 1)) (kk : V cl nL R Z (pc + 1) lv st (mset M a (aL cA N (vp_updL f i.toNatClampNeg x))) k n) : V cl nL R Z pc lv (.long x :: .int i :: .ref a :: st) M k n := by
  intro H locs ls hl hm hS
  refine W.last C.1 C.2.1 (hm a _ he).2 ((C.2.2.2.2.2.2.2.2.1.2 t0 _ ht).1 N (fun j => .long (f j))) (fun q => by cases q) (by show ¬ (i < 0 ∨ (arrV _ _ _).slots.size ≤ _); rw [arrV_size]; exact hin) rfl rfl hdg fun H1 e1 z oq => ?_
  refine kk H1 _ ls hl (hm.set (hm a _ he).1 ?_ oq) (hS.put z oq (hm a _ he).1)
  show H1[a]? = some (vp_cell _ _)
  rw [e1, vp_cell_l, vp_cell_l, arrV_store]
  congr 2
  funext q
  by_cases hq : q = i.toNatClampNeg
  · subst hq
    simp [updV, vp_updL]
  · simp [updV, vp_updL, hq]
theorem v_astq (C : Cx T cl tys own cc nL ret Z) {a : Nat} (t0 ci : Nat) {cA : ClassId} {r : vw_C} {N v : Nat} {vs : List Value} {f : Nat → Option Nat} (he : M a = some (aQ cA N f)) (ht : tys[t0]? = some (cA, .object r.1)) (hv : M v = some (ob ci vs)) (hc : cl[ci]? = some r) {i : Int32} (hin : vp_in i N) (hdg : decode cc pc = .ok (.aastore, 1)) (kk : V cl nL R Z (pc + 1) lv st (mset M a (aQ cA N (va_up f i.toNatClampNeg (some v)))) k n) : V cl nL R Z pc lv (.ref v :: .int i :: .ref a :: st) M k n := by
  intro H locs ls hl hm hS
  have hK := C.2.2.2.2.2.2.2.2.1
  have hlt : i.toNatClampNeg < N := Nat.not_le.mp fun q => hin (Or.inr q)
  have h0 : ¬ i < 0 := fun q => hin (Or.inl q)
  obtain ⟨r', hr', cellV, g1, g2, g3, -⟩ := (hm v _ hv).2
  have hcls := (hK.1 ci r hc).2
  obtain ⟨kA, comp, k1, k2, k3, -⟩ := (hK.2 t0 _ ht).2
  have hcomp : comp = Z.D.1 ci := Option.some.inj (k3.symm.trans hcls.1)
  subst hcomp
  obtain ⟨kC, hkC, -⟩ := hcls.2
  refine W.aast C.1 C.2.1 (hm a _ he).2 (fun q h => by cases h) (fun h => by cases h) k1 k2 rfl hkC ⟨h0, by show _ < (arrV _ _ _).slots.size; rw [arrV_size]; exact hlt⟩ g1 (fun q h => by rw [g3] at h; cases h) (by rw [g2]; exact hkC) (by rw [g2]; exact va_assign hcls) rfl rfl hdg fun H1 e1 z oq => ?_
  refine kk H1 _ ls hl (hm.set (hm a _ he).1 ?_ oq) (hS.put z oq (hm a _ he).1)
  show H1[a]? = some (vp_cell _ _)
  rw [e1, vp_cell_q, vp_cell_q, arrV_store]
  congr 2
  funext q
  by_cases hq : q = i.toNatClampNeg
  · subst hq
    simp [updV, va_up, va_rf]
  · simp [updV, va_up, hq]
theorem v_new (C : Cx T cl tys own cc nL ret Z) {Cn : String} {Tf : u_T} {N ci index : Nat} (hin : ∀ w ∈ u_ws Cn Tf N, w ∈ T) (ty : Nat → FieldType) (hty : ∀ j, j < N → parseFieldDescriptor (Tf j).2.2.1 = some (ty j)) (hcl : Cond.classLink own index Cn ∈ T) (hinst : Cond.instantiable Cn N ∈ T) (hini : Cond.initialized Cn ∈ T) (hc : cl[ci]? = some (Cn, Tf, N)) {fs : List Value} (hfs : ∀ j, j < N → defaultValue (ty j) = vp_V fs j) (hcells : k + 1 ≤ R.cells) (hslots : n + N ≤ R.slots) (hdg : decode cc pc = .ok (.new index, 3)) (kk : ∀ q : Nat, M q = none → V cl nL R Z (pc + 3) lv (.ref q :: st) (mset M q (ob ci fs)) (k + 1) (n + N)) : V cl nL R Z pc lv st M k n := by
  intro H locs ls hl hm hS
  have hK := C.2.2.2.2.2.2.2.2.1
  have hts : ∀ w ∈ T, w.before Z.args Z.s = true := fun w h => C.2.2.2.2.2.2.2.2.2 w h Z.args
  have hKn := hK.1 ci _ hc
  refine W.newcK C.1 C.2.1 C.2.2.2.1 (hts _ hcl) (hts _ hinst) (hts _ hini) rfl hdg hcells hslots hKn.2.1 rfl fun H1 kC hkC e1 z1 o1 => ?_
  exact kk H.size hm.fresh H1 locs ls hl (hm.push (C.2.2.2.2.2.2.1 _ hS.1) ⟨_, hc, (u_born ty hts hin hKn hkC e1 hty).to hfs⟩ o1) ⟨Nat.le_trans hS.1 (by omega), fun x h1 h2 => (o1 x (Nat.lt_of_lt_of_le h1 hS.1)).trans (hS.2.1 x h1 h2), hS.2.2⟩
theorem v_newa (C : Cx T cl tys own cc nL ret Z) (hw : Cond.arrayClass .int ∈ T) (t0 : Nat) {cA : ClassId} (ht : tys[t0]? = some (cA, .int)) {z : Int32} {N : Nat} (hn : ¬ z < 0) (hN : z.toNatClampNeg = N) (hbytes : N * 4 ≤ 536870912) (hcells : k + 1 ≤ R.cells) (hslots : n + N ≤ R.slots) (hdg : decode cc pc = .ok (.newarray .int, 2)) (kk : ∀ q : Nat, M q = none → V cl nL R Z (pc + 2) lv (.ref q :: st) (mset M q (aI cA N (fun _ => 0))) (k + 1) (n + N)) : V cl nL R Z pc lv (.int z :: st) M k n := by
  intro H locs ls hl hm hS
  have hK := C.2.2.2.2.2.2.2.2.1
  have hts : ∀ w ∈ T, w.before Z.args Z.s = true := fun w h => C.2.2.2.2.2.2.2.2.2 w h Z.args
  refine va_newaK C.1 C.2.1 (atype := .int) (hts _ hw) rfl hdg rfl hn hN hbytes hcells hslots rfl fun H1 cB e1 z1 o1 hAr hNm => ?_
  have hcc : cB = cA := Option.some.inj (hNm.symm.trans (hK.2 t0 _ ht).2)
  subst hcc
  refine kk H.size hm.fresh H1 locs ls hl (hm.push (C.2.2.2.2.2.2.1 _ hS.1) ?_ o1) ⟨Nat.le_trans hS.1 (by omega), fun x h1 h2 => (o1 x (Nat.lt_of_lt_of_le h1 hS.1)).trans (hS.2.1 x h1 h2), hS.2.2⟩
  show H1[H.size]? = some (vp_cell _ _)
  rw [e1, vp_cell_i]
  rfl
theorem v_newl (C : Cx T cl tys own cc nL ret Z) (hw : Cond.arrayClass .long ∈ T) (t0 : Nat) {cA : ClassId} (ht : tys[t0]? = some (cA, .long)) {z : Int32} {N : Nat} (hn : ¬ z < 0) (hN : z.toNatClampNeg = N) (hbytes : N * 8 ≤ 536870912) (hcells : k + 1 ≤ R.cells) (hslots : n + N ≤ R.slots) (hdg : decode cc pc = .ok (.newarray .long, 2)) (kk : ∀ q : Nat, M q = none → V cl nL R Z (pc + 2) lv (.ref q :: st) (mset M q (aL cA N (fun _ => 0))) (k + 1) (n + N)) : V cl nL R Z pc lv (.int z :: st) M k n := by
  intro H locs ls hl hm hS
  have hK := C.2.2.2.2.2.2.2.2.1
  have hts : ∀ w ∈ T, w.before Z.args Z.s = true := fun w h => C.2.2.2.2.2.2.2.2.2 w h Z.args
  refine va_newaK C.1 C.2.1 (atype := .long) (hts _ hw) rfl hdg rfl hn hN hbytes hcells hslots rfl fun H1 cB e1 z1 o1 hAr hNm => ?_
  have hcc : cB = cA := Option.some.inj (hNm.symm.trans (hK.2 t0 _ ht).2)
  subst hcc
  refine kk H.size hm.fresh H1 locs ls hl (hm.push (C.2.2.2.2.2.2.1 _ hS.1) ?_ o1) ⟨Nat.le_trans hS.1 (by omega), fun x h1 h2 => (o1 x (Nat.lt_of_lt_of_le h1 hS.1)).trans (hS.2.1 x h1 h2), hS.2.2⟩
  show H1[H.size]? = some (vp_cell _ _)
  rw [e1, vp_cell_l]
  rfl
theorem v_newq (C : Cx T cl tys own cc nL ret Z) {Cn : String} {index : Nat} (hcl : Cond.classLink own index Cn ∈ T) (hover : Cond.arrayOver (.object Cn) ∈ T) (t0 : Nat) {cA : ClassId} (ht : tys[t0]? = some (cA, .object Cn)) {z : Int32} {N : Nat} (hn : ¬ z < 0) (hN : z.toNatClampNeg = N) (hbytes : N * 4 ≤ 536870912) (hcells : k + 1 ≤ R.cells) (hslots : n + N ≤ R.slots) (hdg : decode cc pc = .ok (.anewarray index, 3)) (kk : ∀ q : Nat, M q = none → V cl nL R Z (pc + 3) lv (.ref q :: st) (mset M q (aQ cA N (fun _ => none))) (k + 1) (n + N)) : V cl nL R Z pc lv (.int z :: st) M k n := by
  intro H locs ls hl hm hS
  have hK := C.2.2.2.2.2.2.2.2.1
  have hts : ∀ w ∈ T, w.before Z.args Z.s = true := fun w h => C.2.2.2.2.2.2.2.2.2 w h Z.args
  subst hN
  refine W.anew C.1 C.2.1 C.2.2.2.1 (hts _ hcl) (hts _ hover) rfl hdg rfl hn hbytes hcells hslots fun cB kA comp f1 f2 f3 f4 => ?_
  obtain ⟨kA', comp', k1, k2, k3, k4⟩ := (hK.2 t0 _ ht).2
  have hcc : cB = cA := Option.some.inj (f1.symm.trans k4)
  subst hcc
  generalize hH1 : H.push ({ cls := cB, slots := Array.replicate z.toNatClampNeg .null, vm := .none } : Cell) = H1
  have z1 : H1.size = H.size + 1 := by rw [← hH1, Array.size_push]
  have e1 : H1[H.size]? = some (arrV cB z.toNatClampNeg (fun _ => .null)) := by rw [← hH1, Array.getElem?_push_size, ← arrV_new]
  have o1 : ∀ q : Nat, q < H.size → H1[q]? = H[q]? := fun q hq => by rw [← hH1, Array.getElem?_push, if_neg (Nat.ne_of_lt hq)]
  refine kk H.size hm.fresh H1 locs ls hl (hm.push (C.2.2.2.2.2.2.1 _ hS.1) ?_ o1) ⟨Nat.le_trans hS.1 (by omega), fun x h1 h2 => (o1 x (Nat.lt_of_lt_of_le h1 hS.1)).trans (hS.2.1 x h1 h2), hS.2.2⟩
  show H1[H.size]? = some (vp_cell _ _)
  rw [e1, vp_cell_q]
  rfl
theorem v_objInit (C : Cx T cl tys own cc nL ret Z) {idx a : Nat} (h1 : Cond.methodLink own idx Lib.objectInit ∈ T) (h2 : Cond.instanceMethod Lib.objectInit ∈ T) (h3 : Cond.code Lib.objectInit ⟨#[0xb1]⟩ 1 none ∈ T) (hfr : 1 ≤ R.frames) (hlo : (st.map fun v => v.category).sum + 12 ≤ R.locals) (hdg : decode cc pc = .ok (.invokespecial idx, 3)) (kk : V cl nL R Z (pc + 3) lv st M k n) : V cl nL R Z pc lv (.ref a :: st) M k n := fun H locs ls hl hm hS =>
  W.objInit C.1 C.2.1 C.2.2.2.1 (C.2.2.2.2.2.2.2.2.2 _ h1 Z.args) (C.2.2.2.2.2.2.2.2.2 _ h2 Z.args) (C.2.2.2.2.2.2.2.2.2 _ h3 Z.args) rfl (hl.1.trans C.2.2.1.symm) rfl hdg hfr (by show 2 * 0 + _ + 12 ≤ _; omega) (kk H locs ls hl hm hS)
theorem v_mmax (C : Cx T cl tys own cc nL ret Z) {idx : Nat} (h1 : Cond.methodLink own idx Lib.Math.max.name ∈ T) (h2 : Cond.static Lib.Math.max.name ∈ T) (h3 : Cond.initialized "java/lang/Math" ∈ T) (h4 : Cond.code Lib.Math.max.name Lib.Math.max.code 2 (some .int) ∈ T) (hfr : 1 ≤ R.frames) (hlo : (st.map fun v => v.category).sum + 13 ≤ R.locals) (hk : k ≤ R.cells) (hn : n ≤ R.slots) {x y : Int32} (hdg : decode cc pc = .ok (.invokestatic idx, 3)) (kk : V cl nL R Z (pc + 3) lv (.int (if x < y then y else x) :: st) M k n) : V cl nL R Z pc lv (.int y :: .int x :: st) M k n := fun H locs ls hl hm hS =>
  va_mmax C.1 C.2.1 (C.2.2.1.trans hl.1.symm) C.2.2.2.1 (C.2.2.2.2.2.2.2.2.2 _ h1 Z.args) (C.2.2.2.2.2.2.2.2.2 _ h2 Z.args) (C.2.2.2.2.2.2.2.2.2 _ h3 Z.args) (C.2.2.2.2.2.2.2.2.2 _ h4 Z.args) hfr hlo hk hn hdg (kk H locs ls hl hm hS)
theorem v_mmin (C : Cx T cl tys own cc nL ret Z) {idx : Nat} (h1 : Cond.methodLink own idx Lib.Math.min.name ∈ T) (h2 : Cond.static Lib.Math.min.name ∈ T) (h3 : Cond.initialized "java/lang/Math" ∈ T) (h4 : Cond.code Lib.Math.min.name Lib.Math.min.code 2 (some .int) ∈ T) (hfr : 1 ≤ R.frames) (hlo : (st.map fun v => v.category).sum + 13 ≤ R.locals) (hk : k ≤ R.cells) (hn : n ≤ R.slots) {x y : Int32} (hdg : decode cc pc = .ok (.invokestatic idx, 3)) (kk : V cl nL R Z (pc + 3) lv (.int (if y < x then y else x) :: st) M k n) : V cl nL R Z pc lv (.int y :: .int x :: st) M k n := fun H locs ls hl hm hS =>
  va_mmin C.1 C.2.1 (C.2.2.1.trans hl.1.symm) C.2.2.2.1 (C.2.2.2.2.2.2.2.2.2 _ h1 Z.args) (C.2.2.2.2.2.2.2.2.2 _ h2 Z.args) (C.2.2.2.2.2.2.2.2.2 _ h3 Z.args) (C.2.2.2.2.2.2.2.2.2 _ h4 Z.args) hfr hlo hk hn hdg (kk H locs ls hl hm hS)
theorem v_zald (C : Cx T cl tys own cc nL ret Z) {a : Nat} (t0 : Nat) {cA : ClassId} {N : Nat} {f : Nat → Int32} (he : M a = some (aI cA N f)) (ht : tys[t0]? = some (cA, .boolean)) {i : Int32} (hin : vp_in i N) (hdg : decode cc pc = .ok (.baload, 1)) (kk : V cl nL R Z (pc + 1) lv (.int (f i.toNatClampNeg) :: st) M k n) : V cl nL R Z pc lv (.int i :: .ref a :: st) M k n := fun H locs ls hl hm hS => va_zald C.1 C.2.1 C.2.2.2.2.2.2.2.2.1 (hm.one he) 0 t0 rfl ht hin hdg (kk H locs ls hl hm hS)
theorem v_zast (C : Cx T cl tys own cc nL ret Z) {a : Nat} (t0 : Nat) {cA : ClassId} {N : Nat} {f : Nat → Int32} (he : M a = some (aI cA N f)) (ht : tys[t0]? = some (cA, .boolean)) {i x y : Int32} (hin : vp_in i N) (hx : vp_nar .boolean x = y) (hdg : decode cc pc = .ok (.bastore, 1)) (kk : V cl nL R Z (pc + 1) lv st (mset M a (aI cA N (upd f i.toNatClampNeg y))) k n) : V cl nL R Z pc lv (.int x :: .int i :: .ref a :: st) M k n := by
  subst hx
  intro H locs ls hl hm hS
  refine W.zast C.1 C.2.1 (hm a _ he).2 ((C.2.2.2.2.2.2.2.2.1.2 t0 _ ht).1 N (fun j => .int (f j))) (fun q => by cases q) (by show ¬ (i < 0 ∨ (arrV _ _ _).slots.size ≤ _); rw [arrV_size]; exact hin) rfl rfl hdg fun H1 e1 z oq => ?_
  refine kk H1 _ ls hl (hm.set (hm a _ he).1 ?_ oq) (hS.put z oq (hm a _ he).1)
  show H1[a]? = some (vp_cell _ _)
  rw [e1, vp_cell_i, vp_cell_i, arrV_store]
  congr 2
  funext q
  by_cases hq : q = i.toNatClampNeg
  · subst hq
    simp [updV, upd, vp_nar]
    try rfl
  · simp [updV, upd, hq]
theorem v_newz (C : Cx T cl tys own cc nL ret Z) (hw : Cond.arrayClass .boolean ∈ T) (t0 : Nat) {cA : ClassId} (ht : tys[t0]? = some (cA, .boolean)) {z : Int32} {N : Nat} (hn : ¬ z < 0) (hN : z.toNatClampNeg = N) (hbytes : N * 1 ≤ 536870912) (hcells : k + 1 ≤ R.cells) (hslots : n + N ≤ R.slots) (hdg : decode cc pc = .ok (.newarray .boolean, 2)) (kk : ∀ q : Nat, M q = none → V cl nL R Z (pc + 2) lv (.ref q :: st) (mset M q (aI cA N (fun _ => 0))) (k + 1) (n + N)) : V cl nL R Z pc lv (.int z :: st) M k n := by
  intro H locs ls hl hm hS
  have hK := C.2.2.2.2.2.2.2.2.1
  have hts : ∀ w ∈ T, w.before Z.args Z.s = true := fun w h => C.2.2.2.2.2.2.2.2.2 w h Z.args
  refine va_newaK C.1 C.2.1 (atype := .boolean) (hts _ hw) rfl hdg rfl hn hN hbytes hcells hslots rfl fun H1 cB e1 z1 o1 hAr hNm => ?_
  have hcc : cB = cA := Option.some.inj (hNm.symm.trans (hK.2 t0 _ ht).2)
  subst hcc
  refine kk H.size hm.fresh H1 locs ls hl (hm.push (C.2.2.2.2.2.2.1 _ hS.1) ?_ o1) ⟨Nat.le_trans hS.1 (by omega), fun x h1 h2 => (o1 x (Nat.lt_of_lt_of_le h1 hS.1)).trans (hS.2.1 x h1 h2), hS.2.2⟩
  show H1[H.size]? = some (vp_cell _ _)
  rw [e1, vp_cell_i]
  rfl
theorem v_iret {post : Option Value → Mem → Prop} {mc ms : Nat} (hQ : Z.Q = MQ Z.below (mq post Z.D cl Z.A) Z.args Z.s mc ms Z.A) (C : Cx T cl tys own cc nL ret Z) {v : Int32} (hr : ret = some .int) (hdg : decode cc pc = .ok (.ireturn, 1)) (hk : k ≤ mc) (hn : n ≤ ms) (hp : post (some (.int v)) M) : V cl nL R Z pc lv [.int v] M k n := by
  intro H locs ls hl hm hS
  refine W.widen hk hn ?_
  rw [hQ]
  exact W.iret C.1 C.2.1 (C.2.2.2.2.1.trans hr) (fun t ht hW => ⟨⟨_, M, rfl, hp, by rw [ht]; exact hm⟩, hS.F ht⟩) hS.2.2 hdg C.2.2.2.2.2.1
theorem v_zret {post : Option Value → Mem → Prop} {mc ms : Nat} (hQ : Z.Q = MQ Z.below (mq post Z.D cl Z.A) Z.args Z.s mc ms Z.A) (C : Cx T cl tys own cc nL ret Z) {v : Int32} {ty : FieldType} (hr : ret = some ty) (hnn : narrow ty (.int v) = .int v) (hdg : decode cc pc = .ok (.ireturn, 1)) (hk : k ≤ mc) (hn : n ≤ ms) (hp : post (some (.int v)) M) : V cl nL R Z pc lv [.int v] M k n := by
  intro H locs ls hl hm hS
  refine W.widen hk hn ?_
  rw [hQ]
  exact W.zret C.1 C.2.1 (C.2.2.2.2.1.trans hr) hnn (fun t ht hW => ⟨⟨_, M, rfl, hp, by rw [ht]; exact hm⟩, hS.F ht⟩) hS.2.2 hdg C.2.2.2.2.2.1
theorem v_lret {post : Option Value → Mem → Prop} {mc ms : Nat} (hQ : Z.Q = MQ Z.below (mq post Z.D cl Z.A) Z.args Z.s mc ms Z.A) (C : Cx T cl tys own cc nL ret Z) {v : Int64} (hr : ret = some .long) (hdg : decode cc pc = .ok (.lreturn, 1)) (hk : k ≤ mc) (hn : n ≤ ms) (hp : post (some (.long v)) M) : V cl nL R Z pc lv [.long v] M k n := by
  intro H locs ls hl hm hS
  refine W.widen hk hn ?_
  rw [hQ]
  exact W.lret C.1 C.2.1 (C.2.2.2.2.1.trans hr) (fun t ht hW => ⟨⟨_, M, rfl, hp, by rw [ht]; exact hm⟩, hS.F ht⟩) hS.2.2 hdg C.2.2.2.2.2.1
theorem v_vret {post : Option Value → Mem → Prop} {mc ms : Nat} (hQ : Z.Q = MQ Z.below (mq post Z.D cl Z.A) Z.args Z.s mc ms Z.A) (C : Cx T cl tys own cc nL ret Z) (hr : ret = none) (hdg : decode cc pc = .ok (.return_, 1)) (hk : k ≤ mc) (hn : n ≤ ms) (hp : post (none) M) : V cl nL R Z pc lv [] M k n := by
  intro H locs ls hl hm hS
  refine W.widen hk hn ?_
  rw [hQ]
  exact W.vret C.1 C.2.1 (C.2.2.2.2.1.trans hr) (fun t ht hW => ⟨⟨_, M, rfl, hp, by rw [ht]; exact hm⟩, hS.F ht⟩) hS.2.2 hdg C.2.2.2.2.2.1
theorem v_aret {post : Option Value → Mem → Prop} {mc ms : Nat} (hQ : Z.Q = MQ Z.below (mq post Z.D cl Z.A) Z.args Z.s mc ms Z.A) (C : Cx T cl tys own cc nL ret Z) {v : Value} {nm : String} (hr : ret = some (.object nm)) (hv : v = .null ∨ ∃ a, v = .ref a) (hdg : decode cc pc = .ok (.areturn, 1)) (hk : k ≤ mc) (hn : n ≤ ms) (hp : post (some v) M) : V cl nL R Z pc lv [v] M k n := by
  intro H locs ls hl hm hS
  refine W.widen hk hn ?_
  rw [hQ]
  exact W.aret C.1 C.2.1 (C.2.2.2.2.1.trans hr) (Or.inl ⟨_, rfl⟩) hv (fun t ht hW => ⟨⟨_, M, rfl, hp, by rw [ht]; exact hm⟩, hS.F ht⟩) hS.2.2 hdg C.2.2.2.2.2.1
/-- behind a call -/
theorem v_ret {y : MethodName} {bytes : ByteArray} {maxL : Nat} {rt : Option FieldType} {mc ms : Nat} {post : Option Value → Mem → Prop} {rest : List Value} {av : Array Value} (C : Cx T cl tys own cc nL ret Z) (hfr : ∀ (H : Heap) (locs : List Loc) (ls : Array Slot), lv_has ls nL lv → mm_ok Z.D cl Z.A M H → va_S Z.A Z.s.heap H locs → va_Run Z.p Z.l Z.e R Z.s Z.m Z.args Z.below Z.meth Z.c H locs k n mc ms (F0 Z.m pc ls st) rest (mq post Z.D cl (mm_A M H.size) av) (mm_A M H.size))
    (kk : ∀ (rv : Option Value) (M' : Mem), post rv M' → V cl nL R Z (pc + 3) lv (rv.toList ++ rest) M' (k + mc) (n + ms)) : V cl nL R Z pc lv st M k n := by
  intro H locs ls hl hm hS T' hT X
  have hAA : ∀ q, mm_A M H.size q → Z.A q := fun q h => by
    rcases h with ⟨x, hx⟩ | h
    · exact (hm q x hx).1
    · exact C.2.2.2.2.2.2.1 q (Nat.le_trans hS.1 h)
  obtain ⟨v, st₀, t, T1, L, h0, X', hL, e1, e2, ⟨⟨rv, M', hv, hp, hm'⟩, hz, hk⟩, st⟩ := hfr H locs ls hl hm hS T' hT X
  cases hv
  rw [h0] at hz hk
  have hm1 : mm_ok Z.D cl Z.A M' T1.heap := by rw [e1]; exact hm'.weaken hAA
  have hS1 : va_S Z.A Z.s.heap T1.heap (locs ++ L) := ⟨Nat.le_trans hS.1 (by rw [e1]; exact hz), fun q h1 h2 => by rw [e1, hk q (Nat.lt_of_lt_of_le h1 hS.1) (fun z => h2 (hAA q z))]; exact hS.2.1 q h1 h2, fun q hq => by
      rcases List.mem_append.mp hq with h | h
      · exact hS.2.2 q h
      · exact hAA _ (hL q h)⟩
  obtain ⟨t2, a1, b1⟩ := kk v M' hp T1.heap (locs ++ L) ls hl hm1 hS1 T1 rfl X'
  exact ⟨t2, st t2 a1, b1⟩
theorem v_blind {D : va_G} {T : List Cond} {av : List Value} {sz : Nat} : FrameBlind (va_Pc av (fun U => U.heap.size = sz ∧ mm_h D cl M U.heap ∧ (∀ w ∈ T, mov w = true) ∧ Kw T D cl tys U)) := by
  intro a U g mk ⟨h1, h2, h3, h4, h5⟩
  refine ⟨h1, h2, h3, h4, va_K.moved (u := U) (U := U.calling g mk a) (Vm.Alike.refl U.vm) h5.1, ?_⟩
  exact h5.2.moved h4 (s := U) (U := U.calling g mk a) (State.WarmedH.refl U)
theorem v_callV {y : MethodName} {bytes : ByteArray} {maxL : Nat} {rt : Option FieldType} {fr lo mc ms index : Nat} {As rest : List Value} {post : Option Value → Mem → Prop} (C : Cx T cl tys own cc nL ret Z) {b ci : Nat} {fs : List Value} {r : vw_C} (hrv : M b = some (ob ci fs)) (hrc : cl[ci]? = some r) (hrn : r.1 = y.cls) (hinst : Cond.instanceMethod y ∈ T) (hsel : Cond.selects y.cls y y ∈ T) (ct : Ct T Z.D cl tys Z.l y bytes maxL rt fr lo mc ms (.ref b :: As) M post) (hfr : fr + 1 ≤ R.frames) (hlo : 8 + (maxL + 11) + lo ≤ R.locals) (hcd : Cond.code y bytes maxL rt ∈ T) (hini : Cond.initialized y.cls ∈ T) (hy : y.cls ≠ "java/lang/invoke/MethodHandle" ∧ y.cls ≠ "java/lang/invoke/VarHandle" ∧ (parseMethodDescriptor y.desc).map (fun d => d.parameters.length) = some As.length) (hlink : Cond.methodLink own index y ∈ T) (hst : st = As.reverse ++ .ref b :: rest) (hrest : (rest.map fun v => v.category).sum ≤ 8) (hcs : k + mc ≤ R.cells ∧ n + ms ≤ R.slots) (hdg : decode cc pc = .ok (.invokevirtual index, 3))
    (kk : ∀ (rv : Option Value) (M' : Mem), post rv M' → V cl nL R Z (pc + 3) lv (rv.toList ++ rest) M' (k + mc) (n + ms)) : V cl nL R Z pc lv st M k n := by
  subst hst
  refine v_ret (mc := mc) (ms := ms) (post := post) (av := (.ref b :: As).toArray) (y := y) (bytes := bytes) (maxL := maxL) (rt := rt) C (fun H locs ls hl hm hS => ?_) kk
  have tk : ∀ w ∈ T, w.before Z.args Z.s = true := fun w h => C.2.2.2.2.2.2.2.2.2 w h Z.args
  have CB : CallB R Z.s Z.args own index y bytes maxL rt [.code y bytes maxL rt] (rmOf fr lo mc ms) mc ms As.length := ⟨rfl, rfl, hfr, hlo, fun w hw a' U hW => by cases List.mem_singleton.mp hw; exact word_at hW (Or.inl rfl) (tk _ hcd), List.mem_cons_self, tk _ hcd, tk _ hini, ⟨hy.1, hy.2.1⟩, fun sig h => by have h2 := hy.2.2; rw [h] at h2; exact (Option.some.inj h2).symm, tk _ hlink⟩
  have PR : ∀ U : State, U.heap = H → Z.s.WarmedH U.vm → va_Pc (.ref b :: As) (fun U => U.heap.size = H.size ∧ mm_h Z.D cl M U.heap ∧ (∀ w ∈ T, mov w = true) ∧ Kw T Z.D cl tys U) (.ref b :: As).toArray U := fun U hU hW => ⟨rfl, by rw [hU], by rw [hU]; exact hm.h, C.2.2.2.2.2.2.2.1, C.2.2.2.2.2.2.2.2.moved C.2.2.2.2.2.2.2.1 hW⟩
  obtain ⟨r', hr', cellB, g1, g2, g3, -⟩ := (hm b _ hrv).2
  have hfc : Z.s.vm.findClass y.cls = some cellB.cls := by rw [← hrn, g2]; exact (C.2.2.2.2.2.2.2.2.1.1 ci r hrc).2.1
  exact va_runV (Ts := T) (own := own) (C := y.cls) ⟨C.1, C.2.1, C.2.2.1, C.2.2.2.1, tk⟩ (ct H.size) ⟨CB, tk _ hinst, tk _ hsel⟩ ⟨v_blind, ⟨cellB, g1, by rw [g3]; rfl, hfc⟩, PR⟩ rfl rfl hl.1 rfl (lv_room hrest) hdg hcs
theorem v_callS {y : MethodName} {bytes : ByteArray} {maxL : Nat} {rt : Option FieldType} {fr lo mc ms index : Nat} {As rest : List Value} {post : Option Value → Mem → Prop} (C : Cx T cl tys own cc nL ret Z) (hstat : Cond.static y ∈ T) (ct : Ct T Z.D cl tys Z.l y bytes maxL rt fr lo mc ms As M post) (hfr : fr + 1 ≤ R.frames) (hlo : 8 + (maxL + 11) + lo ≤ R.locals) (hcd : Cond.code y bytes maxL rt ∈ T) (hini : Cond.initialized y.cls ∈ T) (hy : y.cls ≠ "java/lang/invoke/MethodHandle" ∧ y.cls ≠ "java/lang/invoke/VarHandle" ∧ (parseMethodDescriptor y.desc).map (fun d => d.parameters.length) = some As.length) (hlink : Cond.methodLink own index y ∈ T) (hst : st = As.reverse ++ rest) (hrest : (rest.map fun v => v.category).sum ≤ 8) (hcs : k + mc ≤ R.cells ∧ n + ms ≤ R.slots) (hdg : decode cc pc = .ok (.invokestatic index, 3))
    (kk : ∀ (rv : Option Value) (M' : Mem), post rv M' → V cl nL R Z (pc + 3) lv (rv.toList ++ rest) M' (k + mc) (n + ms)) : V cl nL R Z pc lv st M k n := by
  subst hst
  refine v_ret (mc := mc) (ms := ms) (post := post) (av := As.toArray) (y := y) (bytes := bytes) (maxL := maxL) (rt := rt) C (fun H locs ls hl hm hS => ?_) kk
  have tk : ∀ w ∈ T, w.before Z.args Z.s = true := fun w h => C.2.2.2.2.2.2.2.2.2 w h Z.args
  have CB : CallB R Z.s Z.args own index y bytes maxL rt [.code y bytes maxL rt] (rmOf fr lo mc ms) mc ms As.length := ⟨rfl, rfl, hfr, hlo, fun w hw a' U hW => by cases List.mem_singleton.mp hw; exact word_at hW (Or.inl rfl) (tk _ hcd), List.mem_cons_self, tk _ hcd, tk _ hini, ⟨hy.1, hy.2.1⟩, fun sig h => by have h2 := hy.2.2; rw [h] at h2; exact (Option.some.inj h2).symm, tk _ hlink⟩
  have PR : ∀ U : State, U.heap = H → Z.s.WarmedH U.vm → va_Pc As (fun U => U.heap.size = H.size ∧ mm_h Z.D cl M U.heap ∧ (∀ w ∈ T, mov w = true) ∧ Kw T Z.D cl tys U) As.toArray U := fun U hU hW => ⟨rfl, by rw [hU], by rw [hU]; exact hm.h, C.2.2.2.2.2.2.2.1, C.2.2.2.2.2.2.2.2.moved C.2.2.2.2.2.2.2.1 hW⟩
  exact va_runS (Ts := T) (own := own) ⟨C.1, C.2.1, C.2.2.1, C.2.2.2.1, tk⟩ (ct H.size) ⟨CB, tk _ hstat⟩ ⟨v_blind, PR⟩ rfl rfl hl.1 rfl (lv_room hrest) hdg hcs
theorem v_callI {y : MethodName} {bytes : ByteArray} {maxL : Nat} {fr lo mc ms index : Nat} {As rest : List Value} {post : Option Value → Mem → Prop} (C : Cx T cl tys own cc nL ret Z) {b : Nat} (hnm : y.name = "<init>") (hinst : Cond.instanceMethod y ∈ T) (ct : Ct T Z.D cl tys Z.l y bytes maxL none fr lo mc ms (.ref b :: As) M post) (hfr : fr + 1 ≤ R.frames) (hlo : 8 + (maxL + 11) + lo ≤ R.locals) (hcd : Cond.code y bytes maxL none ∈ T) (hini : Cond.initialized y.cls ∈ T) (hy : y.cls ≠ "java/lang/invoke/MethodHandle" ∧ y.cls ≠ "java/lang/invoke/VarHandle" ∧ (parseMethodDescriptor y.desc).map (fun d => d.parameters.length) = some As.length) (hlink : Cond.methodLink own index y ∈ T) (hst : st = As.reverse ++ .ref b :: rest) (hrest : (rest.map fun v => v.category).sum ≤ 8) (hcs : k + mc ≤ R.cells ∧ n + ms ≤ R.slots) (hdg : decode cc pc = .ok (.invokespecial index, 3))
    (kk : ∀ (rv : Option Value) (M' : Mem), post rv M' → V cl nL R Z (pc + 3) lv (rv.toList ++ rest) M' (k + mc) (n + ms)) : V cl nL R Z pc lv st M k n := by
  subst hst
  refine v_ret (mc := mc) (ms := ms) (post := post) (av := (.ref b :: As).toArray) (y := y) (bytes := bytes) (maxL := maxL) (rt := none) C (fun H locs ls hl hm hS => ?_) kk
  have tk : ∀ w ∈ T, w.before Z.args Z.s = true := fun w h => C.2.2.2.2.2.2.2.2.2 w h Z.args
  have CB : CallB R Z.s Z.args own index y bytes maxL none [.code y bytes maxL none] (rmOf fr lo mc ms) mc ms As.length := ⟨rfl, rfl, hfr, hlo, fun w hw a' U hW => by cases List.mem_singleton.mp hw; exact word_at hW (Or.inl rfl) (tk _ hcd), List.mem_cons_self, tk _ hcd, tk _ hini, ⟨hy.1, hy.2.1⟩, fun sig h => by have h2 := hy.2.2; rw [h] at h2; exact (Option.some.inj h2).symm, tk _ hlink⟩
  have PR : ∀ U : State, U.heap = H → Z.s.WarmedH U.vm → va_Pc (.ref b :: As) (fun U => U.heap.size = H.size ∧ mm_h Z.D cl M U.heap ∧ (∀ w ∈ T, mov w = true) ∧ Kw T Z.D cl tys U) (.ref b :: As).toArray U := fun U hU hW => ⟨rfl, by rw [hU], by rw [hU]; exact hm.h, C.2.2.2.2.2.2.2.1, C.2.2.2.2.2.2.2.2.moved C.2.2.2.2.2.2.2.1 hW⟩
  exact va_runI (Ts := T) (own := own) ⟨C.1, C.2.1, C.2.2.1, C.2.2.2.1, tk⟩ (ct H.size) ⟨CB, hnm, tk _ hinst⟩ ⟨v_blind, PR⟩ rfl rfl hl.1 rfl (lv_room hrest) hdg hcs
theorem v_callIN {y : MethodName} {bytes : ByteArray} {maxL : Nat} {fr lo mc ms index : Nat} {As rest : List Value} {post : Option Value → Mem → Prop} {host : String} (C : Cx T cl tys own cc nL ret Z) {b : Nat} (hnm : y.name = "<init>") (hinst : Cond.instanceMethod y ∈ T) (ct : Ct T Z.D cl tys Z.l y bytes maxL none fr lo mc ms (.ref b :: As) M post) (hfr : fr + 1 ≤ R.frames) (hlo : 8 + (maxL + 11) + lo ≤ R.locals) (hcd : Cond.code y bytes maxL none ∈ T) (hini : Cond.initialized y.cls ∈ T) (hy : y.cls ≠ "java/lang/invoke/MethodHandle" ∧ y.cls ≠ "java/lang/invoke/VarHandle" ∧ (parseMethodDescriptor y.desc).map (fun d => d.parameters.length) = some As.length) (hlink : Cond.methodLinkNest own index y host ∈ T) (hst : st = As.reverse ++ .ref b :: rest) (hrest : (rest.map fun v => v.category).sum ≤ 8) (hcs : k + mc ≤ R.cells ∧ n + ms ≤ R.slots) (hdg : decode cc pc = .ok (.invokespecial index, 3))
    (kk : ∀ (rv : Option Value) (M' : Mem), post rv M' → V cl nL R Z (pc + 3) lv (rv.toList ++ rest) M' (k + mc) (n + ms)) : V cl nL R Z pc lv st M k n := by
  subst hst
  refine v_ret (mc := mc) (ms := ms) (post := post) (av := (.ref b :: As : List Value).toArray) (y := y) (bytes := bytes) (maxL := maxL) (rt := none) C (fun H locs ls hl hm hS => ?_) kk
  have tk : ∀ w ∈ T, w.before Z.args Z.s = true := fun w h => C.2.2.2.2.2.2.2.2.2 w h Z.args
  have CB : va_CN R Z.s Z.args own index y host bytes maxL none [.code y bytes maxL none] (rmOf fr lo mc ms) mc ms As.length := ⟨⟨rfl, rfl, hfr, hlo, fun w hw a' U hW => by cases List.mem_singleton.mp hw; exact word_at hW (Or.inl rfl) (tk _ hcd), List.mem_cons_self⟩, tk _ hcd, tk _ hini, ⟨hy.1, hy.2.1⟩, fun sig h => by have h2 := hy.2.2; rw [h] at h2; exact (Option.some.inj h2).symm, tk _ hlink⟩
  have PR : ∀ U : State, U.heap = H → Z.s.WarmedH U.vm → va_Pc (.ref b :: As) (fun U => U.heap.size = H.size ∧ mm_h Z.D cl M U.heap ∧ (∀ w ∈ T, mov w = true) ∧ Kw T Z.D cl tys U) (.ref b :: As : List Value).toArray U := fun U hU hW => ⟨rfl, by rw [hU], by rw [hU]; exact hm.h, C.2.2.2.2.2.2.2.1, C.2.2.2.2.2.2.2.2.moved C.2.2.2.2.2.2.2.1 hW⟩
  exact va_runIN (Ts := T) (own := own) ⟨C.1, C.2.1, C.2.2.1, C.2.2.2.1, tk⟩ (ct H.size) ⟨CB, hnm, tk _ hinst⟩ ⟨v_blind, PR⟩ rfl rfl hl.1 rfl (lv_room hrest) hdg hcs
end VV
/-- a contract out of a walk -/
theorem ct_of {T : List Cond} {D : va_G} {cl : List vw_C} {tys : List (ClassId × FieldType)} {l : Launch} {y : MethodName} {cc : ByteArray} {maxL : Nat} {ret : Option FieldType} {fr lo mc ms : Nat} {av : List Value} {M : Mem} {post : Option Value → Mem → Prop} (own : String) (how : y.cls = own) (hy : plainName y.cls = true) (hav : (lg_sl av).length ≤ maxL)
    (body : ∀ Z : Zt, Z.l = l → Z.D = D → Z.meth.name = y.name → Z.Q = MQ Z.below (mq post Z.D cl Z.A) Z.args Z.s mc ms Z.A → Cx T cl tys own cc maxL ret Z → V cl maxL (rmOf fr lo mc ms) Z 0 (lv_args 0 av) [] M 0 0) : Ct T D cl tys l y cc maxL ret fr lo mc ms av M post := by
  subst how
  intro sz
  refine Met.ofW (cc := cc) (maxL := maxL) (ret := ret) hy rfl ?_
  intro p e s m args below meth c s₁ B hml hv
  obtain ⟨rfl, hsz, hmh, hmv, hKw⟩ := hv
  have hl := lv_entry av (n := maxL) hav
  rw [lg_entry_eq]
  exact body (D, mm_A M sz, p, l, e, s, m, av.toArray, below, meth, c, MQ below (mq post D cl (mm_A M sz)) av.toArray s mc ms (mm_A M sz)) rfl rfl (name_of_methodNamed B.named B.method).1 rfl ⟨B.exec, B.bytes, hml, findClass_of_methodNamed B.named, B.returns, B.notSynchronized, fun q h => Or.inr (by rw [← hsz]; exact h), hmv, hKw⟩ s.heap [] _ hl (mm_ok.self hmh sz) va_S.rf
/-- the frame: a memory beside stays as it is -/
def mun (M1 M2 : Mem) : Mem := fun a => match M1 a with
  | some e => some e
  | none => M2 a
def mdj (M1 M2 : Mem) : Prop := ∀ a, M1 a = none ∨ M2 a = none
theorem ct_mono {T : List Cond} {D : va_G} {cl : List vw_C} {tys : List (ClassId × FieldType)} {l : Launch} {y : MethodName} {cc : ByteArray} {maxL : Nat} {ret : Option FieldType} {fr lo mc ms : Nat} {av : List Value} {M : Mem} {post post' : Option Value → Mem → Prop} (h : Ct T D cl tys l y cc maxL ret fr lo mc ms av M post) (hp : ∀ rv M', post rv M' → post' rv M') : Ct T D cl tys l y cc maxL ret fr lo mc ms av M post' := by
  intro sz p e h1 h2 h3 s m args below h4 h5 h6 h7
  obtain ⟨n, o, a1, a2, a3, ⟨⟨rv, M', b1, b2, b3⟩, b4⟩, b5⟩ := h sz p e h1 h2 h3 s m args below h4 h5 h6 h7
  exact ⟨n, o, a1, a2, a3, ⟨⟨rv, M', b1, hp _ _ b2, b3⟩, b4⟩, b5⟩
theorem ct_frame {T : List Cond} {D : va_G} {cl : List vw_C} {tys : List (ClassId × FieldType)} {l : Launch} {y : MethodName} {cc : ByteArray} {maxL : Nat} {ret : Option FieldType} {fr lo mc ms : Nat} {av : List Value} {M1 : Mem} {post : Option Value → Mem → Prop} (h : Ct T D cl tys l y cc maxL ret fr lo mc ms av M1 post) (M2 : Mem) (hd : mdj M1 M2) : Ct T D cl tys l y cc maxL ret fr lo mc ms av (mun M1 M2) (fun rv M' => ∃ M1', post rv M1' ∧ mdj M1' M2 ∧ M' = mun M1' M2) := by
  intro sz p e h1 h2 h3 s m args below h4 h5 h6 h7
  obtain ⟨rfl, hsz, hmh, hmv, hKw⟩ := h6
  have hmA : ∀ q, mm_A M1 sz q → mm_A (mun M1 M2) sz q := fun q hq => by
    rcases hq with ⟨x, hx⟩ | hq
    · exact Or.inl ⟨x, by simp [mun, hx]⟩
    · exact Or.inr hq
  have hmh1 : mm_h D cl M1 s.heap := fun a e ha => hmh a e (by simp [mun, ha])
  have hmh2 : mm_h D cl M2 s.heap := fun a e ha => hmh a e (by
    rcases hd a with h | h
    · simp [mun, h, ha]
    · rw [h] at ha; cases ha)
  obtain ⟨n, o, a1, a2, a3, ⟨⟨rv, M', b1, b2, b3⟩, b4⟩, L, b5, b6⟩ := h sz p e h1 h2 h3 s m _ below h4 h5 ⟨rfl, hsz, hmh1, hmv, hKw⟩ h7
  have hdj : mdj M' M2 := fun a => by
    cases hx : M' a with
    | none => exact Or.inl rfl
    | some x =>
      cases hy : M2 a with
      | none => exact Or.inr rfl
      | some y =>
        exfalso
        have hlt := (hmh2 a y hy).lt
        rcases (b3 a x hx).1 with ⟨z, hz⟩ | hz
        · rcases hd a with h | h
          · rw [h] at hz; cases hz
          · rw [h] at hy; cases hy
        · have : a < s.heap.size := hlt
          omega
  refine ⟨n, o, a1, a2, a3, ⟨⟨rv, mun M' M2, b1, ⟨M', b2, hdj, rfl⟩, ?_⟩, b4.1, fun q g1 g2 => b4.2 q g1 (fun z => g2 (hmA q z))⟩, L, b5, fun q hq => hmA _ (b6 q hq)⟩
  intro a e ha
  cases hx : M' a with
  | some x =>
    have : e = x := by simp [mun, hx] at ha; exact ha.symm
    subst this
    exact ⟨hmA a (b3 a e hx).1, (b3 a e hx).2⟩
  | none =>
    have ha2 : M2 a = some e := by simpa [mun, hx] using ha
    have hm1 : M1 a = none := by
      rcases hd a with h | h
      · exact h
      · rw [h] at ha2; cases ha2
    have hlt : a < s.heap.size := (hmh2 a e ha2).lt
    refine ⟨Or.inl ⟨e, by simp [mun, hm1, ha2]⟩, (hmh2 a e ha2).kept (b4.2 a hlt ?_)⟩
    intro hz
    rcases hz with ⟨x, hz⟩ | hz
    · rw [hm1] at hz; cases hz
    · omega
end
