section
-- ===== PART A: goes FIRST, ahead of the names: the tables' words, and 'selects' of the private methods out of them =====
/-- a private method of a class that the tables say can be made, by its rows of tables_1 -/
def lw_okq (q : MethodName × Nat) : Prop := (q.1.cls ≠ "java/lang/invoke/MethodHandle" ∧ q.1.cls ≠ "java/lang/invoke/VarHandle") ∧ Cond.instantiable q.1.cls q.2 ∈ tables_1 ∧ Cond.privateMethod q.1 ∈ tables_1 ∧ Cond.instanceMethod q.1 ∈ tables_1
theorem lw_p0 : lw_okq (⟨"BlockTargetSession", "beginSession", "()V"⟩, 11) := ⟨⟨by decide +kernel, by decide +kernel⟩, List.mem_of_getElem? (i := 10) (by decide +kernel), List.mem_of_getElem? (i := 100) (by decide +kernel), List.mem_of_getElem? (i := 101) (by decide +kernel)⟩
theorem lw_p1 : lw_okq (⟨"BlockTargetSession", "addRequest", "(IIII)I"⟩, 11) := ⟨⟨by decide +kernel, by decide +kernel⟩, List.mem_of_getElem? (i := 10) (by decide +kernel), List.mem_of_getElem? (i := 148) (by decide +kernel), List.mem_of_getElem? (i := 149) (by decide +kernel)⟩
theorem lw_p2 : lw_okq (⟨"BlockTargetSession", "firstOpenRequest", "()I"⟩, 11) := ⟨⟨by decide +kernel, by decide +kernel⟩, List.mem_of_getElem? (i := 10) (by decide +kernel), List.mem_of_getElem? (i := 194) (by decide +kernel), List.mem_of_getElem? (i := 195) (by decide +kernel)⟩
theorem lw_p3 : lw_okq (⟨"BlockTargetSession", "sendUp", "(III)V"⟩, 11) := ⟨⟨by decide +kernel, by decide +kernel⟩, List.mem_of_getElem? (i := 10) (by decide +kernel), List.mem_of_getElem? (i := 198) (by decide +kernel), List.mem_of_getElem? (i := 199) (by decide +kernel)⟩
theorem lw_p4 : lw_okq (⟨"BlockTargetSession", "lineOf", "(Z)LBlockTargetSession$Line;"⟩, 11) := ⟨⟨by decide +kernel, by decide +kernel⟩, List.mem_of_getElem? (i := 10) (by decide +kernel), List.mem_of_getElem? (i := 214) (by decide +kernel), List.mem_of_getElem? (i := 215) (by decide +kernel)⟩
theorem lw_p5 : lw_okq (⟨"BlockTargetSession", "breakSession", "()V"⟩, 11) := ⟨⟨by decide +kernel, by decide +kernel⟩, List.mem_of_getElem? (i := 10) (by decide +kernel), List.mem_of_getElem? (i := 222) (by decide +kernel), List.mem_of_getElem? (i := 223) (by decide +kernel)⟩
theorem lw_p6 : lw_okq (⟨"BlockTargetSession", "workAtTarget", "(LBlockTargetSession$Message;)V"⟩, 11) := ⟨⟨by decide +kernel, by decide +kernel⟩, List.mem_of_getElem? (i := 10) (by decide +kernel), List.mem_of_getElem? (i := 237) (by decide +kernel), List.mem_of_getElem? (i := 238) (by decide +kernel)⟩
theorem lw_p7 : lw_okq (⟨"BlockTargetSession", "requestAt", "(I)LBlockTargetSession$Request;"⟩, 11) := ⟨⟨by decide +kernel, by decide +kernel⟩, List.mem_of_getElem? (i := 10) (by decide +kernel), List.mem_of_getElem? (i := 241) (by decide +kernel), List.mem_of_getElem? (i := 242) (by decide +kernel)⟩
theorem lw_p8 : lw_okq (⟨"BlockTargetSession", "workPartOfWrite", "(ILBlockTargetSession$Request;I)V"⟩, 11) := ⟨⟨by decide +kernel, by decide +kernel⟩, List.mem_of_getElem? (i := 10) (by decide +kernel), List.mem_of_getElem? (i := 245) (by decide +kernel), List.mem_of_getElem? (i := 246) (by decide +kernel)⟩
theorem lw_p9 : lw_okq (⟨"BlockTargetSession", "sendDown", "(IIII)V"⟩, 11) := ⟨⟨by decide +kernel, by decide +kernel⟩, List.mem_of_getElem? (i := 10) (by decide +kernel), List.mem_of_getElem? (i := 249) (by decide +kernel), List.mem_of_getElem? (i := 250) (by decide +kernel)⟩
theorem lw_p10 : lw_okq (⟨"BlockTargetSession$Store", "placeOf", "(I)I"⟩, 5) := ⟨⟨by decide +kernel, by decide +kernel⟩, List.mem_of_getElem? (i := 75) (by decide +kernel), List.mem_of_getElem? (i := 257) (by decide +kernel), List.mem_of_getElem? (i := 258) (by decide +kernel)⟩
theorem lw_p11 : lw_okq (⟨"BlockTargetSession", "finish", "(I)V"⟩, 11) := ⟨⟨by decide +kernel, by decide +kernel⟩, List.mem_of_getElem? (i := 10) (by decide +kernel), List.mem_of_getElem? (i := 265) (by decide +kernel), List.mem_of_getElem? (i := 266) (by decide +kernel)⟩
theorem lw_p12 : lw_okq (⟨"BlockTargetSession", "workRead", "(ILBlockTargetSession$Request;)V"⟩, 11) := ⟨⟨by decide +kernel, by decide +kernel⟩, List.mem_of_getElem? (i := 10) (by decide +kernel), List.mem_of_getElem? (i := 269) (by decide +kernel), List.mem_of_getElem? (i := 270) (by decide +kernel)⟩
theorem lw_p13 : lw_okq (⟨"BlockTargetSession", "workSync", "(I)V"⟩, 11) := ⟨⟨by decide +kernel, by decide +kernel⟩, List.mem_of_getElem? (i := 10) (by decide +kernel), List.mem_of_getElem? (i := 277) (by decide +kernel), List.mem_of_getElem? (i := 278) (by decide +kernel)⟩
theorem lw_p14 : lw_okq (⟨"BlockTargetSession", "takeAtInitiator", "(LBlockTargetSession$Message;)V"⟩, 11) := ⟨⟨by decide +kernel, by decide +kernel⟩, List.mem_of_getElem? (i := 10) (by decide +kernel), List.mem_of_getElem? (i := 285) (by decide +kernel), List.mem_of_getElem? (i := 286) (by decide +kernel)⟩
theorem lw_p15 : lw_okq (⟨"BlockTargetSession", "requestsIn", "(I)I"⟩, 11) := ⟨⟨by decide +kernel, by decide +kernel⟩, List.mem_of_getElem? (i := 10) (by decide +kernel), List.mem_of_getElem? (i := 317) (by decide +kernel), List.mem_of_getElem? (i := 318) (by decide +kernel)⟩
def lw_privs_1 : List (MethodName × Nat) := [(⟨"BlockTargetSession", "beginSession", "()V"⟩, 11), (⟨"BlockTargetSession", "addRequest", "(IIII)I"⟩, 11), (⟨"BlockTargetSession", "firstOpenRequest", "()I"⟩, 11), (⟨"BlockTargetSession", "sendUp", "(III)V"⟩, 11), (⟨"BlockTargetSession", "lineOf", "(Z)LBlockTargetSession$Line;"⟩, 11), (⟨"BlockTargetSession", "breakSession", "()V"⟩, 11), (⟨"BlockTargetSession", "workAtTarget", "(LBlockTargetSession$Message;)V"⟩, 11), (⟨"BlockTargetSession", "requestAt", "(I)LBlockTargetSession$Request;"⟩, 11), (⟨"BlockTargetSession", "workPartOfWrite", "(ILBlockTargetSession$Request;I)V"⟩, 11), (⟨"BlockTargetSession", "sendDown", "(IIII)V"⟩, 11), (⟨"BlockTargetSession$Store", "placeOf", "(I)I"⟩, 5), (⟨"BlockTargetSession", "finish", "(I)V"⟩, 11), (⟨"BlockTargetSession", "workRead", "(ILBlockTargetSession$Request;)V"⟩, 11), (⟨"BlockTargetSession", "workSync", "(I)V"⟩, 11), (⟨"BlockTargetSession", "takeAtInitiator", "(LBlockTargetSession$Message;)V"⟩, 11), (⟨"BlockTargetSession", "requestsIn", "(I)I"⟩, 11)]
theorem lw_r1 : ∀ q ∈ lw_privs_1, lw_okq q := List.forall_mem_cons.mpr ⟨lw_p0, List.forall_mem_cons.mpr ⟨lw_p1, List.forall_mem_cons.mpr ⟨lw_p2, List.forall_mem_cons.mpr ⟨lw_p3, List.forall_mem_cons.mpr ⟨lw_p4, List.forall_mem_cons.mpr ⟨lw_p5, List.forall_mem_cons.mpr ⟨lw_p6, List.forall_mem_cons.mpr ⟨lw_p7, List.forall_mem_cons.mpr ⟨lw_p8, List.forall_mem_cons.mpr ⟨lw_p9, List.forall_mem_cons.mpr ⟨lw_p10, List.forall_mem_cons.mpr ⟨lw_p11, List.forall_mem_cons.mpr ⟨lw_p12, List.forall_mem_cons.mpr ⟨lw_p13, List.forall_mem_cons.mpr ⟨lw_p14, List.forall_mem_cons.mpr ⟨lw_p15, fun _ h => absurd h List.not_mem_nil⟩⟩⟩⟩⟩⟩⟩⟩⟩⟩⟩⟩⟩⟩⟩⟩
theorem lw_p16 : lw_okq (⟨"BlockTargetSessionModel", "outside", "(II)Z"⟩, 25) := ⟨⟨by decide +kernel, by decide +kernel⟩, List.mem_of_getElem? (i := 366) (by decide +kernel), List.mem_of_getElem? (i := 453) (by decide +kernel), List.mem_of_getElem? (i := 454) (by decide +kernel)⟩
theorem lw_p17 : lw_okq (⟨"BlockTargetSessionModel", "add", "(IIII)I"⟩, 25) := ⟨⟨by decide +kernel, by decide +kernel⟩, List.mem_of_getElem? (i := 366) (by decide +kernel), List.mem_of_getElem? (i := 457) (by decide +kernel), List.mem_of_getElem? (i := 458) (by decide +kernel)⟩
theorem lw_p18 : lw_okq (⟨"BlockTargetSessionModel", "blockAt", "(I)I"⟩, 25) := ⟨⟨by decide +kernel, by decide +kernel⟩, List.mem_of_getElem? (i := 366) (by decide +kernel), List.mem_of_getElem? (i := 473) (by decide +kernel), List.mem_of_getElem? (i := 474) (by decide +kernel)⟩
theorem lw_p19 : lw_okq (⟨"BlockTargetSessionModel", "number", "(I)I"⟩, 25) := ⟨⟨by decide +kernel, by decide +kernel⟩, List.mem_of_getElem? (i := 366) (by decide +kernel), List.mem_of_getElem? (i := 481) (by decide +kernel), List.mem_of_getElem? (i := 482) (by decide +kernel)⟩
theorem lw_p20 : lw_okq (⟨"BlockTargetSessionModel", "post", "(IIIII)V"⟩, 25) := ⟨⟨by decide +kernel, by decide +kernel⟩, List.mem_of_getElem? (i := 366) (by decide +kernel), List.mem_of_getElem? (i := 485) (by decide +kernel), List.mem_of_getElem? (i := 486) (by decide +kernel)⟩
theorem lw_p21 : lw_okq (⟨"BlockTargetSessionModel", "end", "()V"⟩, 25) := ⟨⟨by decide +kernel, by decide +kernel⟩, List.mem_of_getElem? (i := 366) (by decide +kernel), List.mem_of_getElem? (i := 493) (by decide +kernel), List.mem_of_getElem? (i := 494) (by decide +kernel)⟩
theorem lw_p22 : lw_okq (⟨"BlockTargetSessionModel", "work", "(III)V"⟩, 25) := ⟨⟨by decide +kernel, by decide +kernel⟩, List.mem_of_getElem? (i := 366) (by decide +kernel), List.mem_of_getElem? (i := 497) (by decide +kernel), List.mem_of_getElem? (i := 498) (by decide +kernel)⟩
theorem lw_p23 : lw_okq (⟨"BlockTargetSessionModel", "putAll", "(I)V"⟩, 25) := ⟨⟨by decide +kernel, by decide +kernel⟩, List.mem_of_getElem? (i := 366) (by decide +kernel), List.mem_of_getElem? (i := 501) (by decide +kernel), List.mem_of_getElem? (i := 502) (by decide +kernel)⟩
theorem lw_p24 : lw_okq (⟨"BlockTargetSessionModel", "put", "(II)V"⟩, 25) := ⟨⟨by decide +kernel, by decide +kernel⟩, List.mem_of_getElem? (i := 366) (by decide +kernel), List.mem_of_getElem? (i := 505) (by decide +kernel), List.mem_of_getElem? (i := 506) (by decide +kernel)⟩
theorem lw_p25 : lw_okq (⟨"BlockTargetSessionModel", "size", "()I"⟩, 25) := ⟨⟨by decide +kernel, by decide +kernel⟩, List.mem_of_getElem? (i := 366) (by decide +kernel), List.mem_of_getElem? (i := 509) (by decide +kernel), List.mem_of_getElem? (i := 510) (by decide +kernel)⟩
theorem lw_p26 : lw_okq (⟨"BlockTargetSessionModel", "finish", "(I)V"⟩, 25) := ⟨⟨by decide +kernel, by decide +kernel⟩, List.mem_of_getElem? (i := 366) (by decide +kernel), List.mem_of_getElem? (i := 514) (by decide +kernel), List.mem_of_getElem? (i := 515) (by decide +kernel)⟩
theorem lw_p27 : lw_okq (⟨"BlockTargetSessionModel", "valueOf", "(I)I"⟩, 25) := ⟨⟨by decide +kernel, by decide +kernel⟩, List.mem_of_getElem? (i := 366) (by decide +kernel), List.mem_of_getElem? (i := 518) (by decide +kernel), List.mem_of_getElem? (i := 519) (by decide +kernel)⟩
theorem lw_p28 : lw_okq (⟨"BlockTargetSessionModel", "take", "(IIIII)V"⟩, 25) := ⟨⟨by decide +kernel, by decide +kernel⟩, List.mem_of_getElem? (i := 366) (by decide +kernel), List.mem_of_getElem? (i := 522) (by decide +kernel), List.mem_of_getElem? (i := 523) (by decide +kernel)⟩
def lw_privs_2 : List (MethodName × Nat) := [(⟨"BlockTargetSessionModel", "outside", "(II)Z"⟩, 25), (⟨"BlockTargetSessionModel", "add", "(IIII)I"⟩, 25), (⟨"BlockTargetSessionModel", "blockAt", "(I)I"⟩, 25), (⟨"BlockTargetSessionModel", "number", "(I)I"⟩, 25), (⟨"BlockTargetSessionModel", "post", "(IIIII)V"⟩, 25), (⟨"BlockTargetSessionModel", "end", "()V"⟩, 25), (⟨"BlockTargetSessionModel", "work", "(III)V"⟩, 25), (⟨"BlockTargetSessionModel", "putAll", "(I)V"⟩, 25), (⟨"BlockTargetSessionModel", "put", "(II)V"⟩, 25), (⟨"BlockTargetSessionModel", "size", "()I"⟩, 25), (⟨"BlockTargetSessionModel", "finish", "(I)V"⟩, 25), (⟨"BlockTargetSessionModel", "valueOf", "(I)I"⟩, 25), (⟨"BlockTargetSessionModel", "take", "(IIIII)V"⟩, 25)]
theorem lw_r2 : ∀ q ∈ lw_privs_2, lw_okq q := List.forall_mem_cons.mpr ⟨lw_p16, List.forall_mem_cons.mpr ⟨lw_p17, List.forall_mem_cons.mpr ⟨lw_p18, List.forall_mem_cons.mpr ⟨lw_p19, List.forall_mem_cons.mpr ⟨lw_p20, List.forall_mem_cons.mpr ⟨lw_p21, List.forall_mem_cons.mpr ⟨lw_p22, List.forall_mem_cons.mpr ⟨lw_p23, List.forall_mem_cons.mpr ⟨lw_p24, List.forall_mem_cons.mpr ⟨lw_p25, List.forall_mem_cons.mpr ⟨lw_p26, List.forall_mem_cons.mpr ⟨lw_p27, List.forall_mem_cons.mpr ⟨lw_p28, fun _ h => absurd h List.not_mem_nil⟩⟩⟩⟩⟩⟩⟩⟩⟩⟩⟩⟩⟩
def lw_privs : List (MethodName × Nat) := lw_privs_1 ++ (lw_privs_2)
def lw_tbl : List Cond := k2_sels lw_privs ++ tables_1
theorem lw_privs_ok : ∀ q ∈ lw_privs, lw_okq q := by
  show ∀ q ∈ lw_privs_1 ++ (lw_privs_2), lw_okq q
  exact List.forall_mem_append.mpr ⟨lw_r1, lw_r2⟩
abbrev F_Ln : u_T := fun k => match k with
  | 0 => ("BlockTargetSession$Line", "slots", "[LBlockTargetSession$Message;", true)
  | _ => ("BlockTargetSession$Line", "size", "I", false)
abbrev t_Ln : Nat → FieldType := fun k => match k with
  | 0 => .array (.object "BlockTargetSession$Message")
  | _ => .int
theorem nm_Ln : ∀ a, a < 2 → ∀ b, b < 2 → a ≠ b → (F_Ln a).2.1 ≠ (F_Ln b).2.1 := by decide +kernel
theorem to_Ln : ∀ k, k < 2 → parseFieldDescriptor (F_Ln k).2.2.1 = some (t_Ln k) := by decide +kernel
abbrev F_Ms : u_T := fun k => match k with
  | 0 => ("BlockTargetSession$Message", "request", "I", false)
  | 1 => ("BlockTargetSession$Message", "kind", "I", false)
  | 2 => ("BlockTargetSession$Message", "number", "I", false)
  | 3 => ("BlockTargetSession$Message", "value", "I", false)
  | 4 => ("BlockTargetSession$Message", "carried", "I", false)
  | _ => ("BlockTargetSession$Message", "damaged", "Z", false)
abbrev t_Ms : Nat → FieldType := fun k => match k with
  | 0 => .int
  | 1 => .int
  | 2 => .int
  | 3 => .int
  | 4 => .int
  | _ => .boolean
theorem nm_Ms : ∀ a, a < 6 → ∀ b, b < 6 → a ≠ b → (F_Ms a).2.1 ≠ (F_Ms b).2.1 := by decide +kernel
theorem to_Ms : ∀ k, k < 6 → parseFieldDescriptor (F_Ms k).2.2.1 = some (t_Ms k) := by decide +kernel
abbrev F_Rq : u_T := fun k => match k with
  | 0 => ("BlockTargetSession$Request", "kind", "I", true)
  | 1 => ("BlockTargetSession$Request", "first", "I", true)
  | 2 => ("BlockTargetSession$Request", "count", "I", true)
  | 3 => ("BlockTargetSession$Request", "value", "I", true)
  | 4 => ("BlockTargetSession$Request", "results", "[I", true)
  | _ => ("BlockTargetSession$Request", "state", "I", false)
abbrev t_Rq : Nat → FieldType := fun k => match k with
  | 0 => .int
  | 1 => .int
  | 2 => .int
  | 3 => .int
  | 4 => .array .int
  | _ => .int
theorem nm_Rq : ∀ a, a < 6 → ∀ b, b < 6 → a ≠ b → (F_Rq a).2.1 ≠ (F_Rq b).2.1 := by decide +kernel
theorem to_Rq : ∀ k, k < 6 → parseFieldDescriptor (F_Rq k).2.2.1 = some (t_Rq k) := by decide +kernel
abbrev F_St : u_T := fun k => match k with
  | 0 => ("BlockTargetSession$Store", "room", "I", true)
  | 1 => ("BlockTargetSession$Store", "diskInts", "[I", true)
  | 2 => ("BlockTargetSession$Store", "cacheBlocks", "[I", true)
  | 3 => ("BlockTargetSession$Store", "cacheInts", "[I", true)
  | _ => ("BlockTargetSession$Store", "cacheSize", "I", false)
abbrev t_St : Nat → FieldType := fun k => match k with
  | 0 => .int
  | 1 => .array .int
  | 2 => .array .int
  | 3 => .array .int
  | _ => .int
theorem nm_St : ∀ a, a < 5 → ∀ b, b < 5 → a ≠ b → (F_St a).2.1 ≠ (F_St b).2.1 := by decide +kernel
theorem to_St : ∀ k, k < 5 → parseFieldDescriptor (F_St k).2.2.1 = some (t_St k) := by decide +kernel
abbrev F_Bs : u_T := fun k => match k with
  | 0 => ("BlockTargetSession", "window", "I", true)
  | 1 => ("BlockTargetSession", "store", "LBlockTargetSession$Store;", true)
  | 2 => ("BlockTargetSession", "requests", "[LBlockTargetSession$Request;", true)
  | 3 => ("BlockTargetSession", "requestCount", "I", false)
  | 4 => ("BlockTargetSession", "upLine", "LBlockTargetSession$Line;", true)
  | 5 => ("BlockTargetSession", "downLine", "LBlockTargetSession$Line;", true)
  | 6 => ("BlockTargetSession", "inSession", "Z", false)
  | 7 => ("BlockTargetSession", "sessions", "I", false)
  | 8 => ("BlockTargetSession", "sends", "I", false)
  | 9 => ("BlockTargetSession", "dones", "I", false)
  | _ => ("BlockTargetSession", "credit", "I", false)
abbrev t_Bs : Nat → FieldType := fun k => match k with
  | 0 => .int
  | 1 => .object "BlockTargetSession$Store"
  | 2 => .array (.object "BlockTargetSession$Request")
  | 3 => .int
  | 4 => .object "BlockTargetSession$Line"
  | 5 => .object "BlockTargetSession$Line"
  | 6 => .boolean
  | 7 => .int
  | 8 => .int
  | 9 => .int
  | _ => .int
theorem nm_Bs : ∀ a, a < 11 → ∀ b, b < 11 → a ≠ b → (F_Bs a).2.1 ≠ (F_Bs b).2.1 := by decide +kernel
theorem to_Bs : ∀ k, k < 11 → parseFieldDescriptor (F_Bs k).2.2.1 = some (t_Bs k) := by decide +kernel
abbrev F_Md : u_T := fun k => match k with
  | 0 => ("BlockTargetSessionModel", "window", "I", true)
  | 1 => ("BlockTargetSessionModel", "room", "I", true)
  | 2 => ("BlockTargetSessionModel", "disk", "[I", true)
  | 3 => ("BlockTargetSessionModel", "kept", "[I", true)
  | 4 => ("BlockTargetSessionModel", "stamp", "[I", true)
  | 5 => ("BlockTargetSessionModel", "clock", "I", false)
  | 6 => ("BlockTargetSessionModel", "kind", "[I", true)
  | 7 => ("BlockTargetSessionModel", "first", "[I", true)
  | 8 => ("BlockTargetSessionModel", "length", "[I", true)
  | 9 => ("BlockTargetSessionModel", "value", "[I", true)
  | 10 => ("BlockTargetSessionModel", "state", "[I", true)
  | 11 => ("BlockTargetSessionModel", "results", "[I", true)
  | 12 => ("BlockTargetSessionModel", "requests", "I", false)
  | 13 => ("BlockTargetSessionModel", "mRequest", "[I", true)
  | 14 => ("BlockTargetSessionModel", "mKind", "[I", true)
  | 15 => ("BlockTargetSessionModel", "mNumber", "[I", true)
  | 16 => ("BlockTargetSessionModel", "mValue", "[I", true)
  | 17 => ("BlockTargetSessionModel", "mCarried", "[I", true)
  | 18 => ("BlockTargetSessionModel", "mDamaged", "[Z", true)
  | 19 => ("BlockTargetSessionModel", "held", "[I", true)
  | 20 => ("BlockTargetSessionModel", "open", "Z", false)
  | 21 => ("BlockTargetSessionModel", "sends", "I", false)
  | 22 => ("BlockTargetSessionModel", "dones", "I", false)
  | 23 => ("BlockTargetSessionModel", "credit", "I", false)
  | _ => ("BlockTargetSessionModel", "sessions", "I", false)
abbrev t_Md : Nat → FieldType := fun k => match k with
  | 0 => .int
  | 1 => .int
  | 2 => .array .int
  | 3 => .array .int
  | 4 => .array .int
  | 5 => .int
  | 6 => .array .int
  | 7 => .array .int
  | 8 => .array .int
  | 9 => .array .int
  | 10 => .array .int
  | 11 => .array .int
  | 12 => .int
  | 13 => .array .int
  | 14 => .array .int
  | 15 => .array .int
  | 16 => .array .int
  | 17 => .array .int
  | 18 => .array .boolean
  | 19 => .array .int
  | 20 => .boolean
  | 21 => .int
  | 22 => .int
  | 23 => .int
  | _ => .int
theorem nm_Md : ∀ a, a < 25 → ∀ b, b < 25 → a ≠ b → (F_Md a).2.1 ≠ (F_Md b).2.1 := by decide +kernel
theorem to_Md : ∀ k, k < 25 → parseFieldDescriptor (F_Md k).2.2.1 = some (t_Md k) := by decide +kernel
abbrev cls : List vw_C := [("BlockTargetSession$Line", F_Ln, 2), ("BlockTargetSession$Message", F_Ms, 6), ("BlockTargetSession$Request", F_Rq, 6), ("BlockTargetSession$Store", F_St, 5), ("BlockTargetSession", F_Bs, 11), ("BlockTargetSessionModel", F_Md, 25)]
abbrev y_Bs_init : MethodName := ⟨"BlockTargetSession", "<init>", "(II)V"⟩
abbrev b_Bs_init : ByteArray := prog_1_method_1_code
abbrev y_Ln_init : MethodName := ⟨"BlockTargetSession$Line", "<init>", "(I)V"⟩
abbrev b_Ln_init : ByteArray := prog_2_method_1_code
abbrev y_Ms_init : MethodName := ⟨"BlockTargetSession$Message", "<init>", "()V"⟩
abbrev b_Ms_init : ByteArray := prog_3_method_1_code
abbrev y_Bs_clamp : MethodName := ⟨"BlockTargetSession", "clamp", "(III)I"⟩
abbrev b_Bs_clamp : ByteArray := prog_1_method_20_code
abbrev y_St_init : MethodName := ⟨"BlockTargetSession$Store", "<init>", "(I)V"⟩
abbrev b_St_init : ByteArray := prog_5_method_1_code
abbrev y_Bs_beginSession : MethodName := ⟨"BlockTargetSession", "beginSession", "()V"⟩
abbrev b_Bs_beginSession : ByteArray := prog_1_method_27_code
abbrev y_Bs_write : MethodName := ⟨"BlockTargetSession", "write", "(III)I"⟩
abbrev b_Bs_write : ByteArray := prog_1_method_2_code
abbrev y_Bs_isStretch : MethodName := ⟨"BlockTargetSession", "isStretch", "(II)Z"⟩
abbrev b_Bs_isStretch : ByteArray := prog_1_method_22_code
abbrev y_Bs_isBlock : MethodName := ⟨"BlockTargetSession", "isBlock", "(I)Z"⟩
abbrev b_Bs_isBlock : ByteArray := prog_1_method_21_code
abbrev y_Bs_addRequest : MethodName := ⟨"BlockTargetSession", "addRequest", "(IIII)I"⟩
abbrev b_Bs_addRequest : ByteArray := prog_1_method_23_code
abbrev y_Rq_init : MethodName := ⟨"BlockTargetSession$Request", "<init>", "(IIII)V"⟩
abbrev b_Rq_init : ByteArray := prog_4_method_1_code
abbrev y_Bs_read : MethodName := ⟨"BlockTargetSession", "read", "(II)I"⟩
abbrev b_Bs_read : ByteArray := prog_1_method_3_code
abbrev y_Bs_sync : MethodName := ⟨"BlockTargetSession", "sync", "()I"⟩
abbrev b_Bs_sync : ByteArray := prog_1_method_4_code
abbrev y_Bs_send : MethodName := ⟨"BlockTargetSession", "send", "()I"⟩
abbrev b_Bs_send : ByteArray := prog_1_method_5_code
abbrev y_Bs_firstOpenRequest : MethodName := ⟨"BlockTargetSession", "firstOpenRequest", "()I"⟩
abbrev b_Bs_firstOpenRequest : ByteArray := prog_1_method_25_code
abbrev y_Bs_sendUp : MethodName := ⟨"BlockTargetSession", "sendUp", "(III)V"⟩
abbrev b_Bs_sendUp : ByteArray := prog_1_method_30_code
abbrev y_Ln_putNewest : MethodName := ⟨"BlockTargetSession$Line", "putNewest", "()LBlockTargetSession$Message;"⟩
abbrev b_Ln_putNewest : ByteArray := prog_2_method_3_code
abbrev y_Ms_fill : MethodName := ⟨"BlockTargetSession$Message", "fill", "(IIIII)V"⟩
abbrev b_Ms_fill : ByteArray := prog_3_method_2_code
abbrev y_Bs_deliver : MethodName := ⟨"BlockTargetSession", "deliver", "(Z)I"⟩
abbrev b_Bs_deliver : ByteArray := prog_1_method_6_code
abbrev y_Bs_lineOf : MethodName := ⟨"BlockTargetSession", "lineOf", "(Z)LBlockTargetSession$Line;"⟩
abbrev b_Bs_lineOf : ByteArray := prog_1_method_29_code
abbrev y_Ln_takeOldest : MethodName := ⟨"BlockTargetSession$Line", "takeOldest", "()LBlockTargetSession$Message;"⟩
abbrev b_Ln_takeOldest : ByteArray := prog_2_method_4_code
abbrev y_Bs_breakSession : MethodName := ⟨"BlockTargetSession", "breakSession", "()V"⟩
abbrev b_Bs_breakSession : ByteArray := prog_1_method_28_code
abbrev y_Ln_clear : MethodName := ⟨"BlockTargetSession$Line", "clear", "()V"⟩
abbrev b_Ln_clear : ByteArray := prog_2_method_5_code
abbrev y_Rq_reopen : MethodName := ⟨"BlockTargetSession$Request", "reopen", "()V"⟩
abbrev b_Rq_reopen : ByteArray := prog_4_method_3_code
abbrev y_Ar_fill : MethodName := ⟨"java/util/Arrays", "fill", "([II)V"⟩
abbrev b_Ar_fill : ByteArray := prog_9_method_103_code
abbrev y_Bs_workAtTarget : MethodName := ⟨"BlockTargetSession", "workAtTarget", "(LBlockTargetSession$Message;)V"⟩
abbrev b_Bs_workAtTarget : ByteArray := prog_1_method_32_code
abbrev y_Bs_requestAt : MethodName := ⟨"BlockTargetSession", "requestAt", "(I)LBlockTargetSession$Request;"⟩
abbrev b_Bs_requestAt : ByteArray := prog_1_method_24_code
abbrev y_Bs_workPartOfWrite : MethodName := ⟨"BlockTargetSession", "workPartOfWrite", "(ILBlockTargetSession$Request;I)V"⟩
abbrev b_Bs_workPartOfWrite : ByteArray := prog_1_method_33_code
abbrev y_Bs_sendDown : MethodName := ⟨"BlockTargetSession", "sendDown", "(IIII)V"⟩
abbrev b_Bs_sendDown : ByteArray := prog_1_method_31_code
abbrev y_St_put : MethodName := ⟨"BlockTargetSession$Store", "put", "(II)V"⟩
abbrev b_St_put : ByteArray := prog_5_method_4_code
abbrev y_St_placeOf : MethodName := ⟨"BlockTargetSession$Store", "placeOf", "(I)I"⟩
abbrev b_St_placeOf : ByteArray := prog_5_method_8_code
abbrev y_St_writeBackFirst : MethodName := ⟨"BlockTargetSession$Store", "writeBackFirst", "()I"⟩
abbrev b_St_writeBackFirst : ByteArray := prog_5_method_5_code
abbrev y_Bs_finish : MethodName := ⟨"BlockTargetSession", "finish", "(I)V"⟩
abbrev b_Bs_finish : ByteArray := prog_1_method_36_code
abbrev y_Bs_workRead : MethodName := ⟨"BlockTargetSession", "workRead", "(ILBlockTargetSession$Request;)V"⟩
abbrev b_Bs_workRead : ByteArray := prog_1_method_34_code
abbrev y_St_presentInt : MethodName := ⟨"BlockTargetSession$Store", "presentInt", "(I)I"⟩
abbrev b_St_presentInt : ByteArray := prog_5_method_2_code
abbrev y_Bs_workSync : MethodName := ⟨"BlockTargetSession", "workSync", "(I)V"⟩
abbrev b_Bs_workSync : ByteArray := prog_1_method_35_code
abbrev y_St_writeBackAll : MethodName := ⟨"BlockTargetSession$Store", "writeBackAll", "()V"⟩
abbrev b_St_writeBackAll : ByteArray := prog_5_method_6_code
abbrev y_Bs_takeAtInitiator : MethodName := ⟨"BlockTargetSession", "takeAtInitiator", "(LBlockTargetSession$Message;)V"⟩
abbrev b_Bs_takeAtInitiator : ByteArray := prog_1_method_37_code
abbrev y_Rq_keepResult : MethodName := ⟨"BlockTargetSession$Request", "keepResult", "(II)V"⟩
abbrev b_Rq_keepResult : ByteArray := prog_4_method_2_code
abbrev y_Bs_damage : MethodName := ⟨"BlockTargetSession", "damage", "(ZI)I"⟩
abbrev b_Bs_damage : ByteArray := prog_1_method_7_code
abbrev y_Ln_messageAt : MethodName := ⟨"BlockTargetSession$Line", "messageAt", "(I)LBlockTargetSession$Message;"⟩
abbrev b_Ln_messageAt : ByteArray := prog_2_method_2_code
abbrev y_Bs_drop : MethodName := ⟨"BlockTargetSession", "drop", "()I"⟩
abbrev b_Bs_drop : ByteArray := prog_1_method_8_code
abbrev y_Bs_crash : MethodName := ⟨"BlockTargetSession", "crash", "()I"⟩
abbrev b_Bs_crash : ByteArray := prog_1_method_9_code
abbrev y_St_loseCache : MethodName := ⟨"BlockTargetSession$Store", "loseCache", "()V"⟩
abbrev b_St_loseCache : ByteArray := prog_5_method_7_code
abbrev y_Bs_login : MethodName := ⟨"BlockTargetSession", "login", "()I"⟩
abbrev b_Bs_login : ByteArray := prog_1_method_10_code
abbrev y_Bs_requestsIn : MethodName := ⟨"BlockTargetSession", "requestsIn", "(I)I"⟩
abbrev b_Bs_requestsIn : ByteArray := prog_1_method_26_code
abbrev y_Bs_flush : MethodName := ⟨"BlockTargetSession", "flush", "()I"⟩
abbrev b_Bs_flush : ByteArray := prog_1_method_11_code
abbrev y_Bs_state : MethodName := ⟨"BlockTargetSession", "state", "(I)I"⟩
abbrev b_Bs_state : ByteArray := prog_1_method_12_code
abbrev y_Bs_result : MethodName := ⟨"BlockTargetSession", "result", "(II)J"⟩
abbrev b_Bs_result : ByteArray := prog_1_method_13_code
abbrev y_Bs_present : MethodName := ⟨"BlockTargetSession", "present", "(I)J"⟩
abbrev b_Bs_present : ByteArray := prog_1_method_14_code
abbrev y_Bs_disk : MethodName := ⟨"BlockTargetSession", "disk", "(I)J"⟩
abbrev b_Bs_disk : ByteArray := prog_1_method_15_code
abbrev y_Bs_cached : MethodName := ⟨"BlockTargetSession", "cached", "(I)I"⟩
abbrev b_Bs_cached : ByteArray := prog_1_method_16_code
abbrev y_St_blockAt : MethodName := ⟨"BlockTargetSession$Store", "blockAt", "(I)I"⟩
abbrev b_St_blockAt : ByteArray := prog_5_method_3_code
abbrev y_Bs_message : MethodName := ⟨"BlockTargetSession", "message", "(ZII)I"⟩
abbrev b_Bs_message : ByteArray := prog_1_method_17_code
abbrev y_Bs_waiting : MethodName := ⟨"BlockTargetSession", "waiting", "(Z)I"⟩
abbrev b_Bs_waiting : ByteArray := prog_1_method_18_code
abbrev y_Bs_count : MethodName := ⟨"BlockTargetSession", "count", "(I)I"⟩
abbrev b_Bs_count : ByteArray := prog_1_method_19_code
abbrev y_Lw_cell : MethodName := ⟨"BlockTargetSessionLaw", "cell", "([II)I"⟩
abbrev b_Lw_cell : ByteArray := method_2_code
abbrev y_Md_init : MethodName := ⟨"BlockTargetSessionModel", "<init>", "(II)V"⟩
abbrev b_Md_init : ByteArray := prog_7_method_1_code
abbrev y_Md_write : MethodName := ⟨"BlockTargetSessionModel", "write", "(III)I"⟩
abbrev b_Md_write : ByteArray := prog_7_method_4_code
abbrev y_Md_outside : MethodName := ⟨"BlockTargetSessionModel", "outside", "(II)Z"⟩
abbrev b_Md_outside : ByteArray := prog_7_method_3_code
abbrev y_Md_add : MethodName := ⟨"BlockTargetSessionModel", "add", "(IIII)I"⟩
abbrev b_Md_add : ByteArray := prog_7_method_2_code
abbrev y_Md_read : MethodName := ⟨"BlockTargetSessionModel", "read", "(II)I"⟩
abbrev b_Md_read : ByteArray := prog_7_method_5_code
abbrev y_Md_sync : MethodName := ⟨"BlockTargetSessionModel", "sync", "()I"⟩
abbrev b_Md_sync : ByteArray := prog_7_method_6_code
abbrev y_Md_flush : MethodName := ⟨"BlockTargetSessionModel", "flush", "()I"⟩
abbrev b_Md_flush : ByteArray := prog_7_method_9_code
abbrev y_Md_blockAt : MethodName := ⟨"BlockTargetSessionModel", "blockAt", "(I)I"⟩
abbrev b_Md_blockAt : ByteArray := prog_7_method_8_code
abbrev y_Md_send : MethodName := ⟨"BlockTargetSessionModel", "send", "()I"⟩
abbrev b_Md_send : ByteArray := prog_7_method_13_code
abbrev y_Md_number : MethodName := ⟨"BlockTargetSessionModel", "number", "(I)I"⟩
abbrev b_Md_number : ByteArray := prog_7_method_12_code
abbrev y_Md_post : MethodName := ⟨"BlockTargetSessionModel", "post", "(IIIII)V"⟩
abbrev b_Md_post : ByteArray := prog_7_method_11_code
abbrev y_Md_deliver : MethodName := ⟨"BlockTargetSessionModel", "deliver", "(Z)I"⟩
abbrev b_Md_deliver : ByteArray := prog_7_method_19_code
abbrev y_Md_end : MethodName := ⟨"BlockTargetSessionModel", "end", "()V"⟩
abbrev b_Md_end : ByteArray := prog_7_method_18_code
abbrev y_Md_work : MethodName := ⟨"BlockTargetSessionModel", "work", "(III)V"⟩
abbrev b_Md_work : ByteArray := prog_7_method_16_code
abbrev y_Md_putAll : MethodName := ⟨"BlockTargetSessionModel", "putAll", "(I)V"⟩
abbrev b_Md_putAll : ByteArray := prog_7_method_15_code
abbrev y_Md_put : MethodName := ⟨"BlockTargetSessionModel", "put", "(II)V"⟩
abbrev b_Md_put : ByteArray := prog_7_method_10_code
abbrev y_Md_size : MethodName := ⟨"BlockTargetSessionModel", "size", "()I"⟩
abbrev b_Md_size : ByteArray := prog_7_method_7_code
abbrev y_Md_finish : MethodName := ⟨"BlockTargetSessionModel", "finish", "(I)V"⟩
abbrev b_Md_finish : ByteArray := prog_7_method_14_code
abbrev y_Md_valueOf : MethodName := ⟨"BlockTargetSessionModel", "valueOf", "(I)I"⟩
abbrev b_Md_valueOf : ByteArray := prog_7_method_26_code
abbrev y_Md_take : MethodName := ⟨"BlockTargetSessionModel", "take", "(IIIII)V"⟩
abbrev b_Md_take : ByteArray := prog_7_method_17_code
abbrev y_Md_damage : MethodName := ⟨"BlockTargetSessionModel", "damage", "(ZI)I"⟩
abbrev b_Md_damage : ByteArray := prog_7_method_20_code
abbrev y_Md_drop : MethodName := ⟨"BlockTargetSessionModel", "drop", "()I"⟩
abbrev b_Md_drop : ByteArray := prog_7_method_21_code
abbrev y_Md_crash : MethodName := ⟨"BlockTargetSessionModel", "crash", "()I"⟩
abbrev b_Md_crash : ByteArray := prog_7_method_22_code
abbrev y_Md_login : MethodName := ⟨"BlockTargetSessionModel", "login", "()I"⟩
abbrev b_Md_login : ByteArray := prog_7_method_23_code
abbrev y_Md_state : MethodName := ⟨"BlockTargetSessionModel", "state", "(I)I"⟩
abbrev b_Md_state : ByteArray := prog_7_method_24_code
abbrev y_Md_result : MethodName := ⟨"BlockTargetSessionModel", "result", "(II)J"⟩
abbrev b_Md_result : ByteArray := prog_7_method_25_code
abbrev y_Md_present : MethodName := ⟨"BlockTargetSessionModel", "present", "(I)J"⟩
abbrev b_Md_present : ByteArray := prog_7_method_27_code
abbrev y_Md_disk : MethodName := ⟨"BlockTargetSessionModel", "disk", "(I)J"⟩
abbrev b_Md_disk : ByteArray := prog_7_method_28_code
abbrev y_Md_cached : MethodName := ⟨"BlockTargetSessionModel", "cached", "(I)I"⟩
abbrev b_Md_cached : ByteArray := prog_7_method_29_code
abbrev y_Md_message : MethodName := ⟨"BlockTargetSessionModel", "message", "(ZII)I"⟩
abbrev b_Md_message : ByteArray := prog_7_method_30_code
abbrev y_Md_waiting : MethodName := ⟨"BlockTargetSessionModel", "waiting", "(Z)I"⟩
abbrev b_Md_waiting : ByteArray := prog_7_method_31_code
abbrev y_Md_count : MethodName := ⟨"BlockTargetSessionModel", "count", "(I)I"⟩
abbrev b_Md_count : ByteArray := prog_7_method_32_code
abbrev y_Lw_law : MethodName := ⟨"BlockTargetSessionLaw", "law", "([I)Z"⟩
abbrev b_Lw_law : ByteArray := code
/-- words that stay as the tables warm -/
def mov (w : Cond) : Bool := match w with
  | .arrayClass _ => true
  | .fieldLinkNest .. => true
  | .methodLinkNest .. => true
  | .arrayOver (.object _) => true
  | w => w.onTables && w.keeps
def TT : List Cond := lw_tbl.filter mov
theorem TT_mov : ∀ w ∈ TT, mov w = true := fun _ h => (List.mem_filter.mp h).2
theorem TT_of {w : Cond} (h : w ∈ tables_1) (hm : mov w = true) : w ∈ TT := List.mem_filter.mpr ⟨List.mem_append_right _ h, hm⟩
theorem TT_1 {w : Cond} (i : Nat) (h : tables_1_1[i]? = some w) (hm : mov w = true) : w ∈ TT := TT_of (List.mem_append_left _ (List.mem_of_getElem? h)) hm
theorem TT_2 {w : Cond} (i : Nat) (h : tables_1_2[i]? = some w) (hm : mov w = true) : w ∈ TT := TT_of (List.mem_append_right _ (List.mem_append_left _ (List.mem_of_getElem? h))) hm
theorem TT_3 {w : Cond} (i : Nat) (h : tables_1_3[i]? = some w) (hm : mov w = true) : w ∈ TT := TT_of (List.mem_append_right _ (List.mem_append_right _ (List.mem_of_getElem? h))) hm
theorem TT_p {w : Cond} (i : Nat) (h : (k2_sels lw_privs)[i]? = some w) (hm : mov w = true) : w ∈ TT := List.mem_filter.mpr ⟨List.mem_append_left _ (List.mem_of_getElem? h), hm⟩
theorem w_0 : Cond.initialized "BlockTargetSessionLaw" ∈ TT := TT_1 0 (by rfl) (by rfl)
theorem w_1 : Cond.initialized "BlockTargetSession" ∈ TT := TT_1 1 (by rfl) (by rfl)
theorem w_2 : Cond.initialized "BlockTargetSession$Line" ∈ TT := TT_1 2 (by rfl) (by rfl)
theorem w_3 : Cond.initialized "BlockTargetSession$Message" ∈ TT := TT_1 3 (by rfl) (by rfl)
theorem w_4 : Cond.initialized "java/lang/Math" ∈ TT := TT_1 4 (by rfl) (by rfl)
theorem w_5 : Cond.initialized "BlockTargetSession$Store" ∈ TT := TT_1 5 (by rfl) (by rfl)
theorem w_6 : Cond.initialized "BlockTargetSessionModel" ∈ TT := TT_1 6 (by rfl) (by rfl)
theorem w_7 : Cond.initialized "BlockTargetSession$Request" ∈ TT := TT_1 7 (by rfl) (by rfl)
theorem w_8 : Cond.initialized "java/util/Arrays" ∈ TT := TT_1 8 (by rfl) (by rfl)
theorem w_9 : Cond.classLink "BlockTargetSessionLaw" 7 "BlockTargetSession" ∈ TT := TT_1 9 (by rfl) (by rfl)
theorem w_10 : Cond.instantiable "BlockTargetSession" 11 ∈ TT := TT_1 10 (by rfl) (by rfl)
theorem w_11 : Cond.methodLink "BlockTargetSessionLaw" 15 y_Bs_init ∈ TT := TT_1 11 (by rfl) (by rfl)
theorem w_12 : Cond.instanceMethod y_Bs_init ∈ TT := TT_1 12 (by rfl) (by rfl)
theorem w_13 : Cond.code y_Bs_init b_Bs_init 3 none ∈ TT := TT_1 13 (by rfl) (by rfl)
theorem w_14 : Cond.methodLink "BlockTargetSession" 3 Lib.objectInit ∈ TT := TT_1 14 (by rfl) (by rfl)
theorem w_15 : Cond.instanceMethod Lib.objectInit ∈ TT := TT_1 15 (by rfl) (by rfl)
theorem w_16 : Cond.code Lib.objectInit ⟨#[0xb1]⟩ 1 none ∈ TT := TT_1 16 (by rfl) (by rfl)
theorem w_17 : Cond.classLink "BlockTargetSession" 9 "BlockTargetSession$Request" ∈ TT := TT_1 17 (by rfl) (by rfl)
theorem w_18 : Cond.arrayOver (.object "BlockTargetSession$Request") ∈ TT := TT_1 18 (by rfl) (by rfl)
theorem w_19 : Cond.classLink "BlockTargetSession" 19 "BlockTargetSession$Line" ∈ TT := TT_1 19 (by rfl) (by rfl)
theorem w_20 : Cond.instantiable "BlockTargetSession$Line" 2 ∈ TT := TT_1 20 (by rfl) (by rfl)
theorem w_21 : Cond.methodLink "BlockTargetSession" 21 y_Ln_init ∈ TT := TT_1 21 (by rfl) (by rfl)
theorem w_22 : Cond.instanceMethod y_Ln_init ∈ TT := TT_1 22 (by rfl) (by rfl)
theorem w_23 : Cond.code y_Ln_init b_Ln_init 3 none ∈ TT := TT_1 23 (by rfl) (by rfl)
theorem w_24 : Cond.methodLink "BlockTargetSession$Line" 1 Lib.objectInit ∈ TT := TT_1 24 (by rfl) (by rfl)
theorem w_25 : Cond.classLink "BlockTargetSession$Line" 13 "BlockTargetSession$Message" ∈ TT := TT_1 25 (by rfl) (by rfl)
theorem w_26 : Cond.arrayOver (.object "BlockTargetSession$Message") ∈ TT := TT_1 26 (by rfl) (by rfl)
theorem w_27 : Cond.instantiable "BlockTargetSession$Message" 6 ∈ TT := TT_1 27 (by rfl) (by rfl)
theorem w_28 : Cond.methodLinkNest "BlockTargetSession$Line" 19 y_Ms_init "BlockTargetSession" ∈ TT := TT_1 28 (by rfl) (by rfl)
theorem w_29 : Cond.instanceMethod y_Ms_init ∈ TT := TT_1 29 (by rfl) (by rfl)
theorem w_30 : Cond.code y_Ms_init b_Ms_init 1 none ∈ TT := TT_1 30 (by rfl) (by rfl)
theorem w_31 : Cond.methodLink "BlockTargetSession$Message" 3 Lib.objectInit ∈ TT := TT_1 31 (by rfl) (by rfl)
theorem w_32 : Cond.fieldLink "BlockTargetSession$Message" 9 "BlockTargetSession$Message" "request" "I" ∈ TT := TT_1 32 (by rfl) (by rfl)
theorem w_33 : Cond.fieldLink "BlockTargetSession" 150 "BlockTargetSession$Message" "request" "I" ∈ TT := TT_1 33 (by rfl) (by rfl)
theorem w_34 : Cond.fieldLink "BlockTargetSession$Message" 15 "BlockTargetSession$Message" "kind" "I" ∈ TT := TT_1 34 (by rfl) (by rfl)
theorem w_35 : Cond.fieldLink "BlockTargetSession" 106 "BlockTargetSession$Message" "kind" "I" ∈ TT := TT_1 35 (by rfl) (by rfl)
theorem w_36 : Cond.fieldLink "BlockTargetSession$Message" 18 "BlockTargetSession$Message" "number" "I" ∈ TT := TT_1 36 (by rfl) (by rfl)
theorem w_37 : Cond.fieldLink "BlockTargetSession" 153 "BlockTargetSession$Message" "number" "I" ∈ TT := TT_1 37 (by rfl) (by rfl)
theorem w_38 : Cond.fieldLink "BlockTargetSession$Message" 21 "BlockTargetSession$Message" "value" "I" ∈ TT := TT_1 38 (by rfl) (by rfl)
theorem w_39 : Cond.fieldLink "BlockTargetSession" 220 "BlockTargetSession$Message" "value" "I" ∈ TT := TT_1 39 (by rfl) (by rfl)
theorem w_40 : Cond.fieldLink "BlockTargetSession$Message" 24 "BlockTargetSession$Message" "carried" "I" ∈ TT := TT_1 40 (by rfl) (by rfl)
theorem w_41 : Cond.fieldLink "BlockTargetSession" 156 "BlockTargetSession$Message" "carried" "I" ∈ TT := TT_1 41 (by rfl) (by rfl)
theorem w_42 : Cond.fieldLink "BlockTargetSession$Message" 27 "BlockTargetSession$Message" "damaged" "Z" ∈ TT := TT_1 42 (by rfl) (by rfl)
theorem w_43 : Cond.fieldLink "BlockTargetSession" 91 "BlockTargetSession$Message" "damaged" "Z" ∈ TT := TT_1 43 (by rfl) (by rfl)
theorem w_57 : Cond.fieldLink "BlockTargetSession$Line" 15 "BlockTargetSession$Line" "slots" "[LBlockTargetSession$Message;" ∈ TT := TT_1 57 (by rfl) (by rfl)
theorem w_58 : Cond.fieldLink "BlockTargetSession$Line" 7 "BlockTargetSession$Line" "size" "I" ∈ TT := TT_1 58 (by rfl) (by rfl)
theorem w_59 : Cond.fieldLink "BlockTargetSession" 159 "BlockTargetSession$Line" "size" "I" ∈ TT := TT_1 59 (by rfl) (by rfl)
theorem w_65 : Cond.methodLink "BlockTargetSession" 47 y_Bs_clamp ∈ TT := TT_1 65 (by rfl) (by rfl)
theorem w_66 : Cond.static y_Bs_clamp ∈ TT := TT_1 66 (by rfl) (by rfl)
theorem w_67 : Cond.code y_Bs_clamp b_Bs_clamp 3 (some .int) ∈ TT := TT_1 67 (by rfl) (by rfl)
theorem w_68 : Cond.methodLink "BlockTargetSession" 165 Lib.Math.min.name ∈ TT := TT_1 68 (by rfl) (by rfl)
theorem w_69 : Cond.static Lib.Math.min.name ∈ TT := TT_1 69 (by rfl) (by rfl)
theorem w_70 : Cond.code Lib.Math.min.name Lib.Math.min.code 2 (some .int) ∈ TT := TT_1 70 (by rfl) (by rfl)
theorem w_71 : Cond.methodLink "BlockTargetSession" 171 Lib.Math.max.name ∈ TT := TT_1 71 (by rfl) (by rfl)
theorem w_72 : Cond.static Lib.Math.max.name ∈ TT := TT_1 72 (by rfl) (by rfl)
theorem w_73 : Cond.code Lib.Math.max.name Lib.Math.max.code 2 (some .int) ∈ TT := TT_1 73 (by rfl) (by rfl)
theorem w_74 : Cond.classLink "BlockTargetSession" 54 "BlockTargetSession$Store" ∈ TT := TT_1 74 (by rfl) (by rfl)
theorem w_75 : Cond.instantiable "BlockTargetSession$Store" 5 ∈ TT := TT_1 75 (by rfl) (by rfl)
theorem w_76 : Cond.methodLink "BlockTargetSession" 56 y_St_init ∈ TT := TT_1 76 (by rfl) (by rfl)
theorem w_77 : Cond.instanceMethod y_St_init ∈ TT := TT_1 77 (by rfl) (by rfl)
theorem w_78 : Cond.code y_St_init b_St_init 2 none ∈ TT := TT_1 78 (by rfl) (by rfl)
theorem w_79 : Cond.methodLink "BlockTargetSession$Store" 3 Lib.objectInit ∈ TT := TT_1 79 (by rfl) (by rfl)
theorem w_80 : Cond.fieldLink "BlockTargetSession$Store" 19 "BlockTargetSession$Store" "room" "I" ∈ TT := TT_1 80 (by rfl) (by rfl)
theorem w_81 : Cond.fieldLink "BlockTargetSession$Store" 9 "BlockTargetSession$Store" "diskInts" "[I" ∈ TT := TT_1 81 (by rfl) (by rfl)
theorem w_82 : Cond.fieldLink "BlockTargetSession" 144 "BlockTargetSession$Store" "diskInts" "[I" ∈ TT := TT_1 82 (by rfl) (by rfl)
theorem w_83 : Cond.fieldLink "BlockTargetSession$Store" 22 "BlockTargetSession$Store" "cacheBlocks" "[I" ∈ TT := TT_1 83 (by rfl) (by rfl)
theorem w_84 : Cond.fieldLink "BlockTargetSession$Store" 25 "BlockTargetSession$Store" "cacheInts" "[I" ∈ TT := TT_1 84 (by rfl) (by rfl)
theorem w_85 : Cond.fieldLink "BlockTargetSession$Store" 15 "BlockTargetSession$Store" "cacheSize" "I" ∈ TT := TT_1 85 (by rfl) (by rfl)
theorem w_86 : Cond.fieldLink "BlockTargetSession" 162 "BlockTargetSession$Store" "cacheSize" "I" ∈ TT := TT_1 86 (by rfl) (by rfl)
theorem w_98 : Cond.arrayClass .int ∈ TT := TT_1 98 (by rfl) (by rfl)
theorem w_99 : Cond.methodLink "BlockTargetSession" 61 y_Bs_beginSession ∈ TT := TT_1 99 (by rfl) (by rfl)
theorem w_101 : Cond.instanceMethod y_Bs_beginSession ∈ TT := TT_1 101 (by rfl) (by rfl)
theorem w_102 : Cond.code y_Bs_beginSession b_Bs_beginSession 1 none ∈ TT := TT_1 102 (by rfl) (by rfl)
theorem w_103 : Cond.fieldLink "BlockTargetSession" 51 "BlockTargetSession" "window" "I" ∈ TT := TT_1 103 (by rfl) (by rfl)
theorem w_104 : Cond.fieldLink "BlockTargetSession" 57 "BlockTargetSession" "store" "LBlockTargetSession$Store;" ∈ TT := TT_1 104 (by rfl) (by rfl)
theorem w_105 : Cond.fieldLink "BlockTargetSession" 11 "BlockTargetSession" "requests" "[LBlockTargetSession$Request;" ∈ TT := TT_1 105 (by rfl) (by rfl)
theorem w_106 : Cond.fieldLink "BlockTargetSession" 15 "BlockTargetSession" "requestCount" "I" ∈ TT := TT_1 106 (by rfl) (by rfl)
theorem w_107 : Cond.fieldLink "BlockTargetSession" 24 "BlockTargetSession" "upLine" "LBlockTargetSession$Line;" ∈ TT := TT_1 107 (by rfl) (by rfl)
theorem w_108 : Cond.fieldLink "BlockTargetSession" 28 "BlockTargetSession" "downLine" "LBlockTargetSession$Line;" ∈ TT := TT_1 108 (by rfl) (by rfl)
theorem w_109 : Cond.fieldLink "BlockTargetSession" 31 "BlockTargetSession" "inSession" "Z" ∈ TT := TT_1 109 (by rfl) (by rfl)
theorem w_110 : Cond.fieldLink "BlockTargetSession" 35 "BlockTargetSession" "sessions" "I" ∈ TT := TT_1 110 (by rfl) (by rfl)
theorem w_111 : Cond.fieldLink "BlockTargetSession" 38 "BlockTargetSession" "sends" "I" ∈ TT := TT_1 111 (by rfl) (by rfl)
theorem w_112 : Cond.fieldLink "BlockTargetSession" 41 "BlockTargetSession" "dones" "I" ∈ TT := TT_1 112 (by rfl) (by rfl)
theorem w_113 : Cond.fieldLink "BlockTargetSession" 44 "BlockTargetSession" "credit" "I" ∈ TT := TT_1 113 (by rfl) (by rfl)
theorem w_137 : Cond.methodLink "BlockTargetSessionLaw" 21 y_Bs_write ∈ TT := TT_1 137 (by rfl) (by rfl)
theorem w_138 : Cond.instanceMethod y_Bs_write ∈ TT := TT_1 138 (by rfl) (by rfl)
theorem w_139 : Cond.selects "BlockTargetSession" y_Bs_write y_Bs_write ∈ TT := TT_1 139 (by rfl) (by rfl)
theorem w_140 : Cond.code y_Bs_write b_Bs_write 4 (some .int) ∈ TT := TT_1 140 (by rfl) (by rfl)
theorem w_141 : Cond.methodLink "BlockTargetSession" 64 y_Bs_isStretch ∈ TT := TT_1 141 (by rfl) (by rfl)
theorem w_142 : Cond.static y_Bs_isStretch ∈ TT := TT_1 142 (by rfl) (by rfl)
theorem w_143 : Cond.code y_Bs_isStretch b_Bs_isStretch 2 (some .boolean) ∈ TT := TT_1 143 (by rfl) (by rfl)
theorem w_144 : Cond.methodLink "BlockTargetSession" 137 y_Bs_isBlock ∈ TT := TT_1 144 (by rfl) (by rfl)
theorem w_145 : Cond.static y_Bs_isBlock ∈ TT := TT_1 145 (by rfl) (by rfl)
theorem w_146 : Cond.code y_Bs_isBlock b_Bs_isBlock 1 (some .boolean) ∈ TT := TT_1 146 (by rfl) (by rfl)
theorem w_147 : Cond.methodLink "BlockTargetSession" 68 y_Bs_addRequest ∈ TT := TT_1 147 (by rfl) (by rfl)
theorem w_149 : Cond.instanceMethod y_Bs_addRequest ∈ TT := TT_1 149 (by rfl) (by rfl)
theorem w_150 : Cond.code y_Bs_addRequest b_Bs_addRequest 6 (some .int) ∈ TT := TT_1 150 (by rfl) (by rfl)
theorem w_151 : Cond.instantiable "BlockTargetSession$Request" 6 ∈ TT := TT_1 151 (by rfl) (by rfl)
theorem w_152 : Cond.methodLink "BlockTargetSession" 174 y_Rq_init ∈ TT := TT_1 152 (by rfl) (by rfl)
theorem w_153 : Cond.instanceMethod y_Rq_init ∈ TT := TT_1 153 (by rfl) (by rfl)
theorem w_154 : Cond.code y_Rq_init b_Rq_init 5 none ∈ TT := TT_1 154 (by rfl) (by rfl)
theorem w_155 : Cond.methodLink "BlockTargetSession$Request" 3 Lib.objectInit ∈ TT := TT_1 155 (by rfl) (by rfl)
theorem w_156 : Cond.fieldLink "BlockTargetSession$Request" 15 "BlockTargetSession$Request" "kind" "I" ∈ TT := TT_1 156 (by rfl) (by rfl)
theorem w_157 : Cond.fieldLink "BlockTargetSession" 127 "BlockTargetSession$Request" "kind" "I" ∈ TT := TT_1 157 (by rfl) (by rfl)
theorem w_158 : Cond.fieldLink "BlockTargetSession$Request" 18 "BlockTargetSession$Request" "first" "I" ∈ TT := TT_1 158 (by rfl) (by rfl)
theorem w_159 : Cond.fieldLink "BlockTargetSession" 204 "BlockTargetSession$Request" "first" "I" ∈ TT := TT_1 159 (by rfl) (by rfl)
theorem w_160 : Cond.fieldLink "BlockTargetSession$Request" 21 "BlockTargetSession$Request" "count" "I" ∈ TT := TT_1 160 (by rfl) (by rfl)
theorem w_161 : Cond.fieldLink "BlockTargetSession" 130 "BlockTargetSession$Request" "count" "I" ∈ TT := TT_1 161 (by rfl) (by rfl)
theorem w_162 : Cond.fieldLink "BlockTargetSession$Request" 24 "BlockTargetSession$Request" "value" "I" ∈ TT := TT_1 162 (by rfl) (by rfl)
theorem w_163 : Cond.fieldLink "BlockTargetSession" 207 "BlockTargetSession$Request" "value" "I" ∈ TT := TT_1 163 (by rfl) (by rfl)
theorem w_164 : Cond.fieldLink "BlockTargetSession$Request" 27 "BlockTargetSession$Request" "results" "[I" ∈ TT := TT_1 164 (by rfl) (by rfl)
theorem w_165 : Cond.fieldLink "BlockTargetSession" 133 "BlockTargetSession$Request" "results" "[I" ∈ TT := TT_1 165 (by rfl) (by rfl)
theorem w_166 : Cond.fieldLink "BlockTargetSession$Request" 9 "BlockTargetSession$Request" "state" "I" ∈ TT := TT_1 166 (by rfl) (by rfl)
theorem w_167 : Cond.fieldLink "BlockTargetSession" 76 "BlockTargetSession$Request" "state" "I" ∈ TT := TT_1 167 (by rfl) (by rfl)
theorem w_181 : Cond.methodLink "BlockTargetSessionLaw" 26 y_Bs_read ∈ TT := TT_1 181 (by rfl) (by rfl)
theorem w_182 : Cond.instanceMethod y_Bs_read ∈ TT := TT_1 182 (by rfl) (by rfl)
theorem w_183 : Cond.selects "BlockTargetSession" y_Bs_read y_Bs_read ∈ TT := TT_1 183 (by rfl) (by rfl)
theorem w_184 : Cond.code y_Bs_read b_Bs_read 3 (some .int) ∈ TT := TT_1 184 (by rfl) (by rfl)
theorem w_185 : Cond.methodLink "BlockTargetSessionLaw" 31 y_Bs_sync ∈ TT := TT_1 185 (by rfl) (by rfl)
theorem w_186 : Cond.instanceMethod y_Bs_sync ∈ TT := TT_1 186 (by rfl) (by rfl)
theorem w_187 : Cond.selects "BlockTargetSession" y_Bs_sync y_Bs_sync ∈ TT := TT_1 187 (by rfl) (by rfl)
theorem w_188 : Cond.code y_Bs_sync b_Bs_sync 1 (some .int) ∈ TT := TT_1 188 (by rfl) (by rfl)
theorem w_189 : Cond.methodLink "BlockTargetSessionLaw" 36 y_Bs_send ∈ TT := TT_1 189 (by rfl) (by rfl)
theorem w_190 : Cond.instanceMethod y_Bs_send ∈ TT := TT_1 190 (by rfl) (by rfl)
theorem w_191 : Cond.selects "BlockTargetSession" y_Bs_send y_Bs_send ∈ TT := TT_1 191 (by rfl) (by rfl)
theorem w_192 : Cond.code y_Bs_send b_Bs_send 2 (some .int) ∈ TT := TT_1 192 (by rfl) (by rfl)
theorem w_193 : Cond.methodLink "BlockTargetSession" 72 y_Bs_firstOpenRequest ∈ TT := TT_1 193 (by rfl) (by rfl)
theorem w_195 : Cond.instanceMethod y_Bs_firstOpenRequest ∈ TT := TT_1 195 (by rfl) (by rfl)
theorem w_196 : Cond.code y_Bs_firstOpenRequest b_Bs_firstOpenRequest 2 (some .int) ∈ TT := TT_1 196 (by rfl) (by rfl)
theorem w_197 : Cond.methodLink "BlockTargetSession" 79 y_Bs_sendUp ∈ TT := TT_1 197 (by rfl) (by rfl)
theorem w_199 : Cond.instanceMethod y_Bs_sendUp ∈ TT := TT_1 199 (by rfl) (by rfl)
theorem w_200 : Cond.code y_Bs_sendUp b_Bs_sendUp 5 none ∈ TT := TT_1 200 (by rfl) (by rfl)
theorem w_201 : Cond.methodLink "BlockTargetSession" 183 y_Ln_putNewest ∈ TT := TT_1 201 (by rfl) (by rfl)
theorem w_202 : Cond.instanceMethod y_Ln_putNewest ∈ TT := TT_1 202 (by rfl) (by rfl)
theorem w_203 : Cond.selects "BlockTargetSession$Line" y_Ln_putNewest y_Ln_putNewest ∈ TT := TT_1 203 (by rfl) (by rfl)
theorem w_204 : Cond.code y_Ln_putNewest b_Ln_putNewest 1 (some (.object "BlockTargetSession$Message")) ∈ TT := TT_1 204 (by rfl) (by rfl)
theorem w_205 : Cond.methodLink "BlockTargetSession" 186 y_Ms_fill ∈ TT := TT_1 205 (by rfl) (by rfl)
theorem w_206 : Cond.instanceMethod y_Ms_fill ∈ TT := TT_1 206 (by rfl) (by rfl)
theorem w_207 : Cond.selects "BlockTargetSession$Message" y_Ms_fill y_Ms_fill ∈ TT := TT_1 207 (by rfl) (by rfl)
theorem w_208 : Cond.code y_Ms_fill b_Ms_fill 6 none ∈ TT := TT_1 208 (by rfl) (by rfl)
theorem w_209 : Cond.methodLink "BlockTargetSessionLaw" 40 y_Bs_deliver ∈ TT := TT_1 209 (by rfl) (by rfl)
theorem w_210 : Cond.instanceMethod y_Bs_deliver ∈ TT := TT_1 210 (by rfl) (by rfl)
theorem w_211 : Cond.selects "BlockTargetSession" y_Bs_deliver y_Bs_deliver ∈ TT := TT_1 211 (by rfl) (by rfl)
theorem w_212 : Cond.code y_Bs_deliver b_Bs_deliver 3 (some .int) ∈ TT := TT_1 212 (by rfl) (by rfl)
theorem w_213 : Cond.methodLink "BlockTargetSession" 83 y_Bs_lineOf ∈ TT := TT_1 213 (by rfl) (by rfl)
theorem w_215 : Cond.instanceMethod y_Bs_lineOf ∈ TT := TT_1 215 (by rfl) (by rfl)
theorem w_216 : Cond.code y_Bs_lineOf b_Bs_lineOf 2 (some (.object "BlockTargetSession$Line")) ∈ TT := TT_1 216 (by rfl) (by rfl)
theorem w_217 : Cond.methodLink "BlockTargetSession" 87 y_Ln_takeOldest ∈ TT := TT_1 217 (by rfl) (by rfl)
theorem w_218 : Cond.instanceMethod y_Ln_takeOldest ∈ TT := TT_1 218 (by rfl) (by rfl)
theorem w_219 : Cond.selects "BlockTargetSession$Line" y_Ln_takeOldest y_Ln_takeOldest ∈ TT := TT_1 219 (by rfl) (by rfl)
theorem w_220 : Cond.code y_Ln_takeOldest b_Ln_takeOldest 3 (some (.object "BlockTargetSession$Message")) ∈ TT := TT_1 220 (by rfl) (by rfl)
theorem w_221 : Cond.methodLink "BlockTargetSession" 96 y_Bs_breakSession ∈ TT := TT_1 221 (by rfl) (by rfl)
theorem w_223 : Cond.instanceMethod y_Bs_breakSession ∈ TT := TT_1 223 (by rfl) (by rfl)
theorem w_224 : Cond.code y_Bs_breakSession b_Bs_breakSession 2 none ∈ TT := TT_1 224 (by rfl) (by rfl)
theorem w_225 : Cond.methodLink "BlockTargetSession" 177 y_Ln_clear ∈ TT := TT_1 225 (by rfl) (by rfl)
theorem w_226 : Cond.instanceMethod y_Ln_clear ∈ TT := TT_1 226 (by rfl) (by rfl)
theorem w_227 : Cond.selects "BlockTargetSession$Line" y_Ln_clear y_Ln_clear ∈ TT := TT_1 227 (by rfl) (by rfl)
theorem w_228 : Cond.code y_Ln_clear b_Ln_clear 1 none ∈ TT := TT_1 228 (by rfl) (by rfl)
theorem w_229 : Cond.methodLink "BlockTargetSession" 180 y_Rq_reopen ∈ TT := TT_1 229 (by rfl) (by rfl)
theorem w_230 : Cond.instanceMethod y_Rq_reopen ∈ TT := TT_1 230 (by rfl) (by rfl)
theorem w_231 : Cond.selects "BlockTargetSession$Request" y_Rq_reopen y_Rq_reopen ∈ TT := TT_1 231 (by rfl) (by rfl)
theorem w_232 : Cond.code y_Rq_reopen b_Rq_reopen 1 none ∈ TT := TT_1 232 (by rfl) (by rfl)
theorem w_233 : Cond.methodLink "BlockTargetSession$Request" 31 y_Ar_fill ∈ TT := TT_1 233 (by rfl) (by rfl)
theorem w_234 : Cond.static y_Ar_fill ∈ TT := TT_1 234 (by rfl) (by rfl)
theorem w_235 : Cond.code y_Ar_fill b_Ar_fill 4 none ∈ TT := TT_1 235 (by rfl) (by rfl)
theorem w_236 : Cond.methodLink "BlockTargetSession" 99 y_Bs_workAtTarget ∈ TT := TT_1 236 (by rfl) (by rfl)
theorem w_238 : Cond.instanceMethod y_Bs_workAtTarget ∈ TT := TT_1 238 (by rfl) (by rfl)
theorem w_239 : Cond.code y_Bs_workAtTarget b_Bs_workAtTarget 3 none ∈ TT := TT_1 239 (by rfl) (by rfl)
theorem w_240 : Cond.methodLink "BlockTargetSession" 123 y_Bs_requestAt ∈ TT := TT_2 0 (by rfl) (by rfl)
theorem w_242 : Cond.instanceMethod y_Bs_requestAt ∈ TT := TT_2 2 (by rfl) (by rfl)
theorem w_243 : Cond.code y_Bs_requestAt b_Bs_requestAt 2 (some (.object "BlockTargetSession$Request")) ∈ TT := TT_2 3 (by rfl) (by rfl)
theorem w_244 : Cond.methodLink "BlockTargetSession" 190 y_Bs_workPartOfWrite ∈ TT := TT_2 4 (by rfl) (by rfl)
theorem w_246 : Cond.instanceMethod y_Bs_workPartOfWrite ∈ TT := TT_2 6 (by rfl) (by rfl)
theorem w_247 : Cond.code y_Bs_workPartOfWrite b_Bs_workPartOfWrite 5 none ∈ TT := TT_2 7 (by rfl) (by rfl)
theorem w_248 : Cond.methodLink "BlockTargetSession" 201 y_Bs_sendDown ∈ TT := TT_2 8 (by rfl) (by rfl)
theorem w_250 : Cond.instanceMethod y_Bs_sendDown ∈ TT := TT_2 10 (by rfl) (by rfl)
theorem w_251 : Cond.code y_Bs_sendDown b_Bs_sendDown 6 none ∈ TT := TT_2 11 (by rfl) (by rfl)
theorem w_252 : Cond.methodLink "BlockTargetSession" 210 y_St_put ∈ TT := TT_2 12 (by rfl) (by rfl)
theorem w_253 : Cond.instanceMethod y_St_put ∈ TT := TT_2 13 (by rfl) (by rfl)
theorem w_254 : Cond.selects "BlockTargetSession$Store" y_St_put y_St_put ∈ TT := TT_2 14 (by rfl) (by rfl)
theorem w_255 : Cond.code y_St_put b_St_put 4 none ∈ TT := TT_2 15 (by rfl) (by rfl)
theorem w_256 : Cond.methodLink "BlockTargetSession$Store" 28 y_St_placeOf ∈ TT := TT_2 16 (by rfl) (by rfl)
theorem w_258 : Cond.instanceMethod y_St_placeOf ∈ TT := TT_2 18 (by rfl) (by rfl)
theorem w_259 : Cond.code y_St_placeOf b_St_placeOf 3 (some .int) ∈ TT := TT_2 19 (by rfl) (by rfl)
theorem w_260 : Cond.methodLink "BlockTargetSession$Store" 32 y_St_writeBackFirst ∈ TT := TT_2 20 (by rfl) (by rfl)
theorem w_261 : Cond.instanceMethod y_St_writeBackFirst ∈ TT := TT_2 21 (by rfl) (by rfl)
theorem w_262 : Cond.selects "BlockTargetSession$Store" y_St_writeBackFirst y_St_writeBackFirst ∈ TT := TT_2 22 (by rfl) (by rfl)
theorem w_263 : Cond.code y_St_writeBackFirst b_St_writeBackFirst 3 (some .int) ∈ TT := TT_2 23 (by rfl) (by rfl)
theorem w_264 : Cond.methodLink "BlockTargetSession" 214 y_Bs_finish ∈ TT := TT_2 24 (by rfl) (by rfl)
theorem w_266 : Cond.instanceMethod y_Bs_finish ∈ TT := TT_2 26 (by rfl) (by rfl)
theorem w_267 : Cond.code y_Bs_finish b_Bs_finish 2 none ∈ TT := TT_2 27 (by rfl) (by rfl)
theorem w_268 : Cond.methodLink "BlockTargetSession" 194 y_Bs_workRead ∈ TT := TT_2 28 (by rfl) (by rfl)
theorem w_270 : Cond.instanceMethod y_Bs_workRead ∈ TT := TT_2 30 (by rfl) (by rfl)
theorem w_271 : Cond.code y_Bs_workRead b_Bs_workRead 4 none ∈ TT := TT_2 31 (by rfl) (by rfl)
theorem w_272 : Cond.methodLink "BlockTargetSession" 141 y_St_presentInt ∈ TT := TT_2 32 (by rfl) (by rfl)
theorem w_273 : Cond.instanceMethod y_St_presentInt ∈ TT := TT_2 33 (by rfl) (by rfl)
theorem w_274 : Cond.selects "BlockTargetSession$Store" y_St_presentInt y_St_presentInt ∈ TT := TT_2 34 (by rfl) (by rfl)
theorem w_275 : Cond.code y_St_presentInt b_St_presentInt 3 (some .int) ∈ TT := TT_2 35 (by rfl) (by rfl)
theorem w_276 : Cond.methodLink "BlockTargetSession" 198 y_Bs_workSync ∈ TT := TT_2 36 (by rfl) (by rfl)
theorem w_278 : Cond.instanceMethod y_Bs_workSync ∈ TT := TT_2 38 (by rfl) (by rfl)
theorem w_279 : Cond.code y_Bs_workSync b_Bs_workSync 2 none ∈ TT := TT_2 39 (by rfl) (by rfl)
theorem w_280 : Cond.methodLink "BlockTargetSession" 217 y_St_writeBackAll ∈ TT := TT_2 40 (by rfl) (by rfl)
theorem w_281 : Cond.instanceMethod y_St_writeBackAll ∈ TT := TT_2 41 (by rfl) (by rfl)
theorem w_282 : Cond.selects "BlockTargetSession$Store" y_St_writeBackAll y_St_writeBackAll ∈ TT := TT_2 42 (by rfl) (by rfl)
theorem w_283 : Cond.code y_St_writeBackAll b_St_writeBackAll 2 none ∈ TT := TT_2 43 (by rfl) (by rfl)
theorem w_284 : Cond.methodLink "BlockTargetSession" 103 y_Bs_takeAtInitiator ∈ TT := TT_2 44 (by rfl) (by rfl)
theorem w_286 : Cond.instanceMethod y_Bs_takeAtInitiator ∈ TT := TT_2 46 (by rfl) (by rfl)
theorem w_287 : Cond.code y_Bs_takeAtInitiator b_Bs_takeAtInitiator 3 none ∈ TT := TT_2 47 (by rfl) (by rfl)
theorem w_288 : Cond.methodLink "BlockTargetSession" 221 y_Rq_keepResult ∈ TT := TT_2 48 (by rfl) (by rfl)
theorem w_289 : Cond.instanceMethod y_Rq_keepResult ∈ TT := TT_2 49 (by rfl) (by rfl)
theorem w_290 : Cond.selects "BlockTargetSession$Request" y_Rq_keepResult y_Rq_keepResult ∈ TT := TT_2 50 (by rfl) (by rfl)
theorem w_291 : Cond.code y_Rq_keepResult b_Rq_keepResult 3 none ∈ TT := TT_2 51 (by rfl) (by rfl)
theorem w_292 : Cond.methodLink "BlockTargetSessionLaw" 45 y_Bs_damage ∈ TT := TT_2 52 (by rfl) (by rfl)
theorem w_293 : Cond.instanceMethod y_Bs_damage ∈ TT := TT_2 53 (by rfl) (by rfl)
theorem w_294 : Cond.selects "BlockTargetSession" y_Bs_damage y_Bs_damage ∈ TT := TT_2 54 (by rfl) (by rfl)
theorem w_295 : Cond.code y_Bs_damage b_Bs_damage 4 (some .int) ∈ TT := TT_2 55 (by rfl) (by rfl)
theorem w_296 : Cond.methodLink "BlockTargetSession" 109 y_Ln_messageAt ∈ TT := TT_2 56 (by rfl) (by rfl)
theorem w_297 : Cond.instanceMethod y_Ln_messageAt ∈ TT := TT_2 57 (by rfl) (by rfl)
theorem w_298 : Cond.selects "BlockTargetSession$Line" y_Ln_messageAt y_Ln_messageAt ∈ TT := TT_2 58 (by rfl) (by rfl)
theorem w_299 : Cond.code y_Ln_messageAt b_Ln_messageAt 2 (some (.object "BlockTargetSession$Message")) ∈ TT := TT_2 59 (by rfl) (by rfl)
theorem w_300 : Cond.methodLink "BlockTargetSessionLaw" 50 y_Bs_drop ∈ TT := TT_2 60 (by rfl) (by rfl)
theorem w_301 : Cond.instanceMethod y_Bs_drop ∈ TT := TT_2 61 (by rfl) (by rfl)
theorem w_302 : Cond.selects "BlockTargetSession" y_Bs_drop y_Bs_drop ∈ TT := TT_2 62 (by rfl) (by rfl)
theorem w_303 : Cond.code y_Bs_drop b_Bs_drop 1 (some .int) ∈ TT := TT_2 63 (by rfl) (by rfl)
theorem w_304 : Cond.methodLink "BlockTargetSessionLaw" 54 y_Bs_crash ∈ TT := TT_2 64 (by rfl) (by rfl)
theorem w_305 : Cond.instanceMethod y_Bs_crash ∈ TT := TT_2 65 (by rfl) (by rfl)
theorem w_306 : Cond.selects "BlockTargetSession" y_Bs_crash y_Bs_crash ∈ TT := TT_2 66 (by rfl) (by rfl)
theorem w_307 : Cond.code y_Bs_crash b_Bs_crash 1 (some .int) ∈ TT := TT_2 67 (by rfl) (by rfl)
theorem w_308 : Cond.methodLink "BlockTargetSession" 113 y_St_loseCache ∈ TT := TT_2 68 (by rfl) (by rfl)
theorem w_309 : Cond.instanceMethod y_St_loseCache ∈ TT := TT_2 69 (by rfl) (by rfl)
theorem w_310 : Cond.selects "BlockTargetSession$Store" y_St_loseCache y_St_loseCache ∈ TT := TT_2 70 (by rfl) (by rfl)
theorem w_311 : Cond.code y_St_loseCache b_St_loseCache 1 none ∈ TT := TT_2 71 (by rfl) (by rfl)
theorem w_312 : Cond.methodLink "BlockTargetSessionLaw" 58 y_Bs_login ∈ TT := TT_2 72 (by rfl) (by rfl)
theorem w_313 : Cond.instanceMethod y_Bs_login ∈ TT := TT_2 73 (by rfl) (by rfl)
theorem w_314 : Cond.selects "BlockTargetSession" y_Bs_login y_Bs_login ∈ TT := TT_2 74 (by rfl) (by rfl)
theorem w_315 : Cond.code y_Bs_login b_Bs_login 1 (some .int) ∈ TT := TT_2 75 (by rfl) (by rfl)
theorem w_316 : Cond.methodLink "BlockTargetSession" 116 y_Bs_requestsIn ∈ TT := TT_2 76 (by rfl) (by rfl)
theorem w_318 : Cond.instanceMethod y_Bs_requestsIn ∈ TT := TT_2 78 (by rfl) (by rfl)
theorem w_319 : Cond.code y_Bs_requestsIn b_Bs_requestsIn 4 (some .int) ∈ TT := TT_2 79 (by rfl) (by rfl)
theorem w_320 : Cond.methodLink "BlockTargetSessionLaw" 62 y_Bs_flush ∈ TT := TT_2 80 (by rfl) (by rfl)
theorem w_321 : Cond.instanceMethod y_Bs_flush ∈ TT := TT_2 81 (by rfl) (by rfl)
theorem w_322 : Cond.selects "BlockTargetSession" y_Bs_flush y_Bs_flush ∈ TT := TT_2 82 (by rfl) (by rfl)
theorem w_323 : Cond.code y_Bs_flush b_Bs_flush 1 (some .int) ∈ TT := TT_2 83 (by rfl) (by rfl)
theorem w_324 : Cond.methodLink "BlockTargetSession" 120 y_St_writeBackFirst ∈ TT := TT_2 84 (by rfl) (by rfl)
theorem w_325 : Cond.methodLink "BlockTargetSessionLaw" 66 y_Bs_state ∈ TT := TT_2 85 (by rfl) (by rfl)
theorem w_326 : Cond.instanceMethod y_Bs_state ∈ TT := TT_2 86 (by rfl) (by rfl)
theorem w_327 : Cond.selects "BlockTargetSession" y_Bs_state y_Bs_state ∈ TT := TT_2 87 (by rfl) (by rfl)
theorem w_328 : Cond.code y_Bs_state b_Bs_state 3 (some .int) ∈ TT := TT_2 88 (by rfl) (by rfl)
theorem w_329 : Cond.methodLink "BlockTargetSessionLaw" 71 y_Bs_result ∈ TT := TT_2 89 (by rfl) (by rfl)
theorem w_330 : Cond.instanceMethod y_Bs_result ∈ TT := TT_2 90 (by rfl) (by rfl)
theorem w_331 : Cond.selects "BlockTargetSession" y_Bs_result y_Bs_result ∈ TT := TT_2 91 (by rfl) (by rfl)
theorem w_332 : Cond.code y_Bs_result b_Bs_result 4 (some .long) ∈ TT := TT_2 92 (by rfl) (by rfl)
theorem w_333 : Cond.constantLong "BlockTargetSession" 128 (-1000000000000) ∈ TT := TT_2 93 (by rfl) (by rfl)
theorem w_334 : Cond.methodLink "BlockTargetSessionLaw" 76 y_Bs_present ∈ TT := TT_2 94 (by rfl) (by rfl)
theorem w_335 : Cond.instanceMethod y_Bs_present ∈ TT := TT_2 95 (by rfl) (by rfl)
theorem w_336 : Cond.selects "BlockTargetSession" y_Bs_present y_Bs_present ∈ TT := TT_2 96 (by rfl) (by rfl)
theorem w_337 : Cond.code y_Bs_present b_Bs_present 2 (some .long) ∈ TT := TT_2 97 (by rfl) (by rfl)
theorem w_338 : Cond.methodLink "BlockTargetSessionLaw" 81 y_Bs_disk ∈ TT := TT_2 98 (by rfl) (by rfl)
theorem w_339 : Cond.instanceMethod y_Bs_disk ∈ TT := TT_2 99 (by rfl) (by rfl)
theorem w_340 : Cond.selects "BlockTargetSession" y_Bs_disk y_Bs_disk ∈ TT := TT_2 100 (by rfl) (by rfl)
theorem w_341 : Cond.code y_Bs_disk b_Bs_disk 2 (some .long) ∈ TT := TT_2 101 (by rfl) (by rfl)
theorem w_342 : Cond.methodLink "BlockTargetSessionLaw" 85 y_Bs_cached ∈ TT := TT_2 102 (by rfl) (by rfl)
theorem w_343 : Cond.instanceMethod y_Bs_cached ∈ TT := TT_2 103 (by rfl) (by rfl)
theorem w_344 : Cond.selects "BlockTargetSession" y_Bs_cached y_Bs_cached ∈ TT := TT_2 104 (by rfl) (by rfl)
theorem w_345 : Cond.code y_Bs_cached b_Bs_cached 2 (some .int) ∈ TT := TT_2 105 (by rfl) (by rfl)
theorem w_346 : Cond.methodLink "BlockTargetSession" 147 y_St_blockAt ∈ TT := TT_2 106 (by rfl) (by rfl)
theorem w_347 : Cond.instanceMethod y_St_blockAt ∈ TT := TT_2 107 (by rfl) (by rfl)
theorem w_348 : Cond.selects "BlockTargetSession$Store" y_St_blockAt y_St_blockAt ∈ TT := TT_2 108 (by rfl) (by rfl)
theorem w_349 : Cond.code y_St_blockAt b_St_blockAt 2 (some .int) ∈ TT := TT_2 109 (by rfl) (by rfl)
theorem w_350 : Cond.methodLink "BlockTargetSessionLaw" 89 y_Bs_message ∈ TT := TT_2 110 (by rfl) (by rfl)
theorem w_351 : Cond.instanceMethod y_Bs_message ∈ TT := TT_2 111 (by rfl) (by rfl)
theorem w_352 : Cond.selects "BlockTargetSession" y_Bs_message y_Bs_message ∈ TT := TT_2 112 (by rfl) (by rfl)
theorem w_353 : Cond.code y_Bs_message b_Bs_message 5 (some .int) ∈ TT := TT_2 113 (by rfl) (by rfl)
theorem w_354 : Cond.methodLink "BlockTargetSessionLaw" 94 y_Bs_waiting ∈ TT := TT_2 114 (by rfl) (by rfl)
theorem w_355 : Cond.instanceMethod y_Bs_waiting ∈ TT := TT_2 115 (by rfl) (by rfl)
theorem w_356 : Cond.selects "BlockTargetSession" y_Bs_waiting y_Bs_waiting ∈ TT := TT_2 116 (by rfl) (by rfl)
theorem w_357 : Cond.code y_Bs_waiting b_Bs_waiting 2 (some .int) ∈ TT := TT_2 117 (by rfl) (by rfl)
theorem w_358 : Cond.methodLink "BlockTargetSessionLaw" 98 y_Bs_count ∈ TT := TT_2 118 (by rfl) (by rfl)
theorem w_359 : Cond.instanceMethod y_Bs_count ∈ TT := TT_2 119 (by rfl) (by rfl)
theorem w_360 : Cond.selects "BlockTargetSession" y_Bs_count y_Bs_count ∈ TT := TT_2 120 (by rfl) (by rfl)
theorem w_361 : Cond.code y_Bs_count b_Bs_count 2 (some .int) ∈ TT := TT_2 121 (by rfl) (by rfl)
theorem w_362 : Cond.methodLink "BlockTargetSessionLaw" 9 y_Lw_cell ∈ TT := TT_2 122 (by rfl) (by rfl)
theorem w_363 : Cond.static y_Lw_cell ∈ TT := TT_2 123 (by rfl) (by rfl)
theorem w_364 : Cond.code y_Lw_cell b_Lw_cell 2 (some .int) ∈ TT := TT_2 124 (by rfl) (by rfl)
theorem w_365 : Cond.classLink "BlockTargetSessionLaw" 18 "BlockTargetSessionModel" ∈ TT := TT_2 125 (by rfl) (by rfl)
theorem w_366 : Cond.instantiable "BlockTargetSessionModel" 25 ∈ TT := TT_2 126 (by rfl) (by rfl)
theorem w_367 : Cond.methodLink "BlockTargetSessionLaw" 20 y_Md_init ∈ TT := TT_2 127 (by rfl) (by rfl)
theorem w_368 : Cond.instanceMethod y_Md_init ∈ TT := TT_2 128 (by rfl) (by rfl)
theorem w_369 : Cond.code y_Md_init b_Md_init 3 none ∈ TT := TT_2 129 (by rfl) (by rfl)
theorem w_370 : Cond.methodLink "BlockTargetSessionModel" 1 Lib.objectInit ∈ TT := TT_2 130 (by rfl) (by rfl)
theorem w_371 : Cond.fieldLink "BlockTargetSessionModel" 67 "BlockTargetSessionModel" "window" "I" ∈ TT := TT_2 131 (by rfl) (by rfl)
theorem w_372 : Cond.fieldLink "BlockTargetSessionModel" 70 "BlockTargetSessionModel" "room" "I" ∈ TT := TT_2 132 (by rfl) (by rfl)
theorem w_373 : Cond.fieldLink "BlockTargetSessionModel" 7 "BlockTargetSessionModel" "disk" "[I" ∈ TT := TT_2 133 (by rfl) (by rfl)
theorem w_374 : Cond.fieldLink "BlockTargetSessionModel" 13 "BlockTargetSessionModel" "kept" "[I" ∈ TT := TT_2 134 (by rfl) (by rfl)
theorem w_375 : Cond.fieldLink "BlockTargetSessionModel" 16 "BlockTargetSessionModel" "stamp" "[I" ∈ TT := TT_2 135 (by rfl) (by rfl)
theorem w_376 : Cond.fieldLink "BlockTargetSessionModel" 91 "BlockTargetSessionModel" "clock" "I" ∈ TT := TT_2 136 (by rfl) (by rfl)
theorem w_377 : Cond.fieldLink "BlockTargetSessionModel" 19 "BlockTargetSessionModel" "kind" "[I" ∈ TT := TT_2 137 (by rfl) (by rfl)
theorem w_378 : Cond.fieldLink "BlockTargetSessionModel" 22 "BlockTargetSessionModel" "first" "[I" ∈ TT := TT_2 138 (by rfl) (by rfl)
theorem w_379 : Cond.fieldLink "BlockTargetSessionModel" 25 "BlockTargetSessionModel" "length" "[I" ∈ TT := TT_2 139 (by rfl) (by rfl)
theorem w_380 : Cond.fieldLink "BlockTargetSessionModel" 28 "BlockTargetSessionModel" "value" "[I" ∈ TT := TT_2 140 (by rfl) (by rfl)
theorem w_381 : Cond.fieldLink "BlockTargetSessionModel" 31 "BlockTargetSessionModel" "state" "[I" ∈ TT := TT_2 141 (by rfl) (by rfl)
theorem w_382 : Cond.fieldLink "BlockTargetSessionModel" 34 "BlockTargetSessionModel" "results" "[I" ∈ TT := TT_2 142 (by rfl) (by rfl)
theorem w_383 : Cond.fieldLink "BlockTargetSessionModel" 76 "BlockTargetSessionModel" "requests" "I" ∈ TT := TT_2 143 (by rfl) (by rfl)
theorem w_384 : Cond.fieldLink "BlockTargetSessionModel" 37 "BlockTargetSessionModel" "mRequest" "[I" ∈ TT := TT_2 144 (by rfl) (by rfl)
theorem w_385 : Cond.fieldLink "BlockTargetSessionModel" 40 "BlockTargetSessionModel" "mKind" "[I" ∈ TT := TT_2 145 (by rfl) (by rfl)
theorem w_386 : Cond.fieldLink "BlockTargetSessionModel" 43 "BlockTargetSessionModel" "mNumber" "[I" ∈ TT := TT_2 146 (by rfl) (by rfl)
theorem w_387 : Cond.fieldLink "BlockTargetSessionModel" 46 "BlockTargetSessionModel" "mValue" "[I" ∈ TT := TT_2 147 (by rfl) (by rfl)
theorem w_388 : Cond.fieldLink "BlockTargetSessionModel" 49 "BlockTargetSessionModel" "mCarried" "[I" ∈ TT := TT_2 148 (by rfl) (by rfl)
theorem w_389 : Cond.fieldLink "BlockTargetSessionModel" 52 "BlockTargetSessionModel" "mDamaged" "[Z" ∈ TT := TT_2 149 (by rfl) (by rfl)
theorem w_390 : Cond.fieldLink "BlockTargetSessionModel" 56 "BlockTargetSessionModel" "held" "[I" ∈ TT := TT_2 150 (by rfl) (by rfl)
theorem w_391 : Cond.fieldLink "BlockTargetSessionModel" 59 "BlockTargetSessionModel" "open" "Z" ∈ TT := TT_2 151 (by rfl) (by rfl)
theorem w_392 : Cond.fieldLink "BlockTargetSessionModel" 107 "BlockTargetSessionModel" "sends" "I" ∈ TT := TT_2 152 (by rfl) (by rfl)
theorem w_393 : Cond.fieldLink "BlockTargetSessionModel" 101 "BlockTargetSessionModel" "dones" "I" ∈ TT := TT_2 153 (by rfl) (by rfl)
theorem w_394 : Cond.fieldLink "BlockTargetSessionModel" 73 "BlockTargetSessionModel" "credit" "I" ∈ TT := TT_2 154 (by rfl) (by rfl)
theorem w_395 : Cond.fieldLink "BlockTargetSessionModel" 63 "BlockTargetSessionModel" "sessions" "I" ∈ TT := TT_2 155 (by rfl) (by rfl)
theorem w_447 : Cond.arrayClass .boolean ∈ TT := TT_2 207 (by rfl) (by rfl)
theorem w_448 : Cond.methodLink "BlockTargetSessionLaw" 25 y_Md_write ∈ TT := TT_2 208 (by rfl) (by rfl)
theorem w_449 : Cond.instanceMethod y_Md_write ∈ TT := TT_2 209 (by rfl) (by rfl)
theorem w_450 : Cond.selects "BlockTargetSessionModel" y_Md_write y_Md_write ∈ TT := TT_2 210 (by rfl) (by rfl)
theorem w_451 : Cond.code y_Md_write b_Md_write 4 (some .int) ∈ TT := TT_2 211 (by rfl) (by rfl)
theorem w_452 : Cond.methodLink "BlockTargetSessionModel" 79 y_Md_outside ∈ TT := TT_2 212 (by rfl) (by rfl)
theorem w_454 : Cond.instanceMethod y_Md_outside ∈ TT := TT_2 214 (by rfl) (by rfl)
theorem w_455 : Cond.code y_Md_outside b_Md_outside 3 (some .boolean) ∈ TT := TT_2 215 (by rfl) (by rfl)
theorem w_456 : Cond.methodLink "BlockTargetSessionModel" 83 y_Md_add ∈ TT := TT_2 216 (by rfl) (by rfl)
theorem w_458 : Cond.instanceMethod y_Md_add ∈ TT := TT_2 218 (by rfl) (by rfl)
theorem w_459 : Cond.code y_Md_add b_Md_add 5 (some .int) ∈ TT := TT_2 219 (by rfl) (by rfl)
theorem w_460 : Cond.methodLink "BlockTargetSessionLaw" 30 y_Md_read ∈ TT := TT_2 220 (by rfl) (by rfl)
theorem w_461 : Cond.instanceMethod y_Md_read ∈ TT := TT_2 221 (by rfl) (by rfl)
theorem w_462 : Cond.selects "BlockTargetSessionModel" y_Md_read y_Md_read ∈ TT := TT_2 222 (by rfl) (by rfl)
theorem w_463 : Cond.code y_Md_read b_Md_read 3 (some .int) ∈ TT := TT_2 223 (by rfl) (by rfl)
theorem w_464 : Cond.methodLink "BlockTargetSessionLaw" 35 y_Md_sync ∈ TT := TT_2 224 (by rfl) (by rfl)
theorem w_465 : Cond.instanceMethod y_Md_sync ∈ TT := TT_2 225 (by rfl) (by rfl)
theorem w_466 : Cond.selects "BlockTargetSessionModel" y_Md_sync y_Md_sync ∈ TT := TT_2 226 (by rfl) (by rfl)
theorem w_467 : Cond.code y_Md_sync b_Md_sync 1 (some .int) ∈ TT := TT_2 227 (by rfl) (by rfl)
theorem w_468 : Cond.methodLink "BlockTargetSessionLaw" 65 y_Md_flush ∈ TT := TT_2 228 (by rfl) (by rfl)
theorem w_469 : Cond.instanceMethod y_Md_flush ∈ TT := TT_2 229 (by rfl) (by rfl)
theorem w_470 : Cond.selects "BlockTargetSessionModel" y_Md_flush y_Md_flush ∈ TT := TT_2 230 (by rfl) (by rfl)
theorem w_471 : Cond.code y_Md_flush b_Md_flush 2 (some .int) ∈ TT := TT_2 231 (by rfl) (by rfl)
theorem w_472 : Cond.methodLink "BlockTargetSessionModel" 87 y_Md_blockAt ∈ TT := TT_2 232 (by rfl) (by rfl)
theorem w_474 : Cond.instanceMethod y_Md_blockAt ∈ TT := TT_2 234 (by rfl) (by rfl)
theorem w_475 : Cond.code y_Md_blockAt b_Md_blockAt 5 (some .int) ∈ TT := TT_2 235 (by rfl) (by rfl)
theorem w_476 : Cond.methodLink "BlockTargetSessionLaw" 39 y_Md_send ∈ TT := TT_2 236 (by rfl) (by rfl)
theorem w_477 : Cond.instanceMethod y_Md_send ∈ TT := TT_2 237 (by rfl) (by rfl)
theorem w_478 : Cond.selects "BlockTargetSessionModel" y_Md_send y_Md_send ∈ TT := TT_2 238 (by rfl) (by rfl)
theorem w_479 : Cond.code y_Md_send b_Md_send 2 (some .int) ∈ TT := TT_2 239 (by rfl) (by rfl)
theorem w_480 : Cond.methodLink "BlockTargetSessionModel" 104 y_Md_number ∈ TT := TT_3 0 (by rfl) (by rfl)
theorem w_482 : Cond.instanceMethod y_Md_number ∈ TT := TT_3 2 (by rfl) (by rfl)
theorem w_483 : Cond.code y_Md_number b_Md_number 4 (some .int) ∈ TT := TT_3 3 (by rfl) (by rfl)
theorem w_484 : Cond.methodLink "BlockTargetSessionModel" 110 y_Md_post ∈ TT := TT_3 4 (by rfl) (by rfl)
theorem w_486 : Cond.instanceMethod y_Md_post ∈ TT := TT_3 6 (by rfl) (by rfl)
theorem w_487 : Cond.code y_Md_post b_Md_post 7 none ∈ TT := TT_3 7 (by rfl) (by rfl)
theorem w_488 : Cond.methodLink "BlockTargetSessionLaw" 44 y_Md_deliver ∈ TT := TT_3 8 (by rfl) (by rfl)
theorem w_489 : Cond.instanceMethod y_Md_deliver ∈ TT := TT_3 9 (by rfl) (by rfl)
theorem w_490 : Cond.selects "BlockTargetSessionModel" y_Md_deliver y_Md_deliver ∈ TT := TT_3 10 (by rfl) (by rfl)
theorem w_491 : Cond.code y_Md_deliver b_Md_deliver 10 (some .int) ∈ TT := TT_3 11 (by rfl) (by rfl)
theorem w_492 : Cond.methodLink "BlockTargetSessionModel" 128 y_Md_end ∈ TT := TT_3 12 (by rfl) (by rfl)
theorem w_494 : Cond.instanceMethod y_Md_end ∈ TT := TT_3 14 (by rfl) (by rfl)
theorem w_495 : Cond.code y_Md_end b_Md_end 2 none ∈ TT := TT_3 15 (by rfl) (by rfl)
theorem w_496 : Cond.methodLink "BlockTargetSessionModel" 131 y_Md_work ∈ TT := TT_3 16 (by rfl) (by rfl)
theorem w_498 : Cond.instanceMethod y_Md_work ∈ TT := TT_3 18 (by rfl) (by rfl)
theorem w_499 : Cond.code y_Md_work b_Md_work 6 none ∈ TT := TT_3 19 (by rfl) (by rfl)
theorem w_500 : Cond.methodLink "BlockTargetSessionModel" 122 y_Md_putAll ∈ TT := TT_3 20 (by rfl) (by rfl)
theorem w_502 : Cond.instanceMethod y_Md_putAll ∈ TT := TT_3 22 (by rfl) (by rfl)
theorem w_503 : Cond.code y_Md_putAll b_Md_putAll 3 none ∈ TT := TT_3 23 (by rfl) (by rfl)
theorem w_504 : Cond.methodLink "BlockTargetSessionModel" 114 y_Md_put ∈ TT := TT_3 24 (by rfl) (by rfl)
theorem w_506 : Cond.instanceMethod y_Md_put ∈ TT := TT_3 26 (by rfl) (by rfl)
theorem w_507 : Cond.code y_Md_put b_Md_put 4 none ∈ TT := TT_3 27 (by rfl) (by rfl)
theorem w_508 : Cond.methodLink "BlockTargetSessionModel" 94 y_Md_size ∈ TT := TT_3 28 (by rfl) (by rfl)
theorem w_510 : Cond.instanceMethod y_Md_size ∈ TT := TT_3 30 (by rfl) (by rfl)
theorem w_511 : Cond.code y_Md_size b_Md_size 3 (some .int) ∈ TT := TT_3 31 (by rfl) (by rfl)
theorem w_512 : Cond.methodLink "BlockTargetSessionModel" 98 y_Md_flush ∈ TT := TT_3 32 (by rfl) (by rfl)
theorem w_513 : Cond.methodLink "BlockTargetSessionModel" 118 y_Md_finish ∈ TT := TT_3 33 (by rfl) (by rfl)
theorem w_515 : Cond.instanceMethod y_Md_finish ∈ TT := TT_3 35 (by rfl) (by rfl)
theorem w_516 : Cond.code y_Md_finish b_Md_finish 2 none ∈ TT := TT_3 36 (by rfl) (by rfl)
theorem w_517 : Cond.methodLink "BlockTargetSessionModel" 125 y_Md_valueOf ∈ TT := TT_3 37 (by rfl) (by rfl)
theorem w_519 : Cond.instanceMethod y_Md_valueOf ∈ TT := TT_3 39 (by rfl) (by rfl)
theorem w_520 : Cond.code y_Md_valueOf b_Md_valueOf 2 (some .int) ∈ TT := TT_3 40 (by rfl) (by rfl)
theorem w_521 : Cond.methodLink "BlockTargetSessionModel" 135 y_Md_take ∈ TT := TT_3 41 (by rfl) (by rfl)
theorem w_523 : Cond.instanceMethod y_Md_take ∈ TT := TT_3 43 (by rfl) (by rfl)
theorem w_524 : Cond.code y_Md_take b_Md_take 6 none ∈ TT := TT_3 44 (by rfl) (by rfl)
theorem w_525 : Cond.methodLink "BlockTargetSessionLaw" 49 y_Md_damage ∈ TT := TT_3 45 (by rfl) (by rfl)
theorem w_526 : Cond.instanceMethod y_Md_damage ∈ TT := TT_3 46 (by rfl) (by rfl)
theorem w_527 : Cond.selects "BlockTargetSessionModel" y_Md_damage y_Md_damage ∈ TT := TT_3 47 (by rfl) (by rfl)
theorem w_528 : Cond.code y_Md_damage b_Md_damage 4 (some .int) ∈ TT := TT_3 48 (by rfl) (by rfl)
theorem w_529 : Cond.methodLink "BlockTargetSessionLaw" 53 y_Md_drop ∈ TT := TT_3 49 (by rfl) (by rfl)
theorem w_530 : Cond.instanceMethod y_Md_drop ∈ TT := TT_3 50 (by rfl) (by rfl)
theorem w_531 : Cond.selects "BlockTargetSessionModel" y_Md_drop y_Md_drop ∈ TT := TT_3 51 (by rfl) (by rfl)
theorem w_532 : Cond.code y_Md_drop b_Md_drop 1 (some .int) ∈ TT := TT_3 52 (by rfl) (by rfl)
theorem w_533 : Cond.methodLink "BlockTargetSessionLaw" 57 y_Md_crash ∈ TT := TT_3 53 (by rfl) (by rfl)
theorem w_534 : Cond.instanceMethod y_Md_crash ∈ TT := TT_3 54 (by rfl) (by rfl)
theorem w_535 : Cond.selects "BlockTargetSessionModel" y_Md_crash y_Md_crash ∈ TT := TT_3 55 (by rfl) (by rfl)
theorem w_536 : Cond.code y_Md_crash b_Md_crash 2 (some .int) ∈ TT := TT_3 56 (by rfl) (by rfl)
theorem w_537 : Cond.methodLink "BlockTargetSessionLaw" 61 y_Md_login ∈ TT := TT_3 57 (by rfl) (by rfl)
theorem w_538 : Cond.instanceMethod y_Md_login ∈ TT := TT_3 58 (by rfl) (by rfl)
theorem w_539 : Cond.selects "BlockTargetSessionModel" y_Md_login y_Md_login ∈ TT := TT_3 59 (by rfl) (by rfl)
theorem w_540 : Cond.code y_Md_login b_Md_login 1 (some .int) ∈ TT := TT_3 60 (by rfl) (by rfl)
theorem w_541 : Cond.methodLink "BlockTargetSessionLaw" 70 y_Md_state ∈ TT := TT_3 61 (by rfl) (by rfl)
theorem w_542 : Cond.instanceMethod y_Md_state ∈ TT := TT_3 62 (by rfl) (by rfl)
theorem w_543 : Cond.selects "BlockTargetSessionModel" y_Md_state y_Md_state ∈ TT := TT_3 63 (by rfl) (by rfl)
theorem w_544 : Cond.code y_Md_state b_Md_state 2 (some .int) ∈ TT := TT_3 64 (by rfl) (by rfl)
theorem w_545 : Cond.methodLink "BlockTargetSessionLaw" 75 y_Md_result ∈ TT := TT_3 65 (by rfl) (by rfl)
theorem w_546 : Cond.instanceMethod y_Md_result ∈ TT := TT_3 66 (by rfl) (by rfl)
theorem w_547 : Cond.selects "BlockTargetSessionModel" y_Md_result y_Md_result ∈ TT := TT_3 67 (by rfl) (by rfl)
theorem w_548 : Cond.code y_Md_result b_Md_result 3 (some .long) ∈ TT := TT_3 68 (by rfl) (by rfl)
theorem w_549 : Cond.constantLong "BlockTargetSessionModel" 138 (-1000000000000) ∈ TT := TT_3 69 (by rfl) (by rfl)
theorem w_550 : Cond.methodLink "BlockTargetSessionLaw" 80 y_Md_present ∈ TT := TT_3 70 (by rfl) (by rfl)
theorem w_551 : Cond.instanceMethod y_Md_present ∈ TT := TT_3 71 (by rfl) (by rfl)
theorem w_552 : Cond.selects "BlockTargetSessionModel" y_Md_present y_Md_present ∈ TT := TT_3 72 (by rfl) (by rfl)
theorem w_553 : Cond.code y_Md_present b_Md_present 2 (some .long) ∈ TT := TT_3 73 (by rfl) (by rfl)
theorem w_554 : Cond.methodLink "BlockTargetSessionLaw" 84 y_Md_disk ∈ TT := TT_3 74 (by rfl) (by rfl)
theorem w_555 : Cond.instanceMethod y_Md_disk ∈ TT := TT_3 75 (by rfl) (by rfl)
theorem w_556 : Cond.selects "BlockTargetSessionModel" y_Md_disk y_Md_disk ∈ TT := TT_3 76 (by rfl) (by rfl)
theorem w_557 : Cond.code y_Md_disk b_Md_disk 2 (some .long) ∈ TT := TT_3 77 (by rfl) (by rfl)
theorem w_558 : Cond.methodLink "BlockTargetSessionLaw" 88 y_Md_cached ∈ TT := TT_3 78 (by rfl) (by rfl)
theorem w_559 : Cond.instanceMethod y_Md_cached ∈ TT := TT_3 79 (by rfl) (by rfl)
theorem w_560 : Cond.selects "BlockTargetSessionModel" y_Md_cached y_Md_cached ∈ TT := TT_3 80 (by rfl) (by rfl)
theorem w_561 : Cond.code y_Md_cached b_Md_cached 2 (some .int) ∈ TT := TT_3 81 (by rfl) (by rfl)
theorem w_562 : Cond.methodLink "BlockTargetSessionLaw" 93 y_Md_message ∈ TT := TT_3 82 (by rfl) (by rfl)
theorem w_563 : Cond.instanceMethod y_Md_message ∈ TT := TT_3 83 (by rfl) (by rfl)
theorem w_564 : Cond.selects "BlockTargetSessionModel" y_Md_message y_Md_message ∈ TT := TT_3 84 (by rfl) (by rfl)
theorem w_565 : Cond.code y_Md_message b_Md_message 6 (some .int) ∈ TT := TT_3 85 (by rfl) (by rfl)
theorem w_566 : Cond.methodLink "BlockTargetSessionLaw" 97 y_Md_waiting ∈ TT := TT_3 86 (by rfl) (by rfl)
theorem w_567 : Cond.instanceMethod y_Md_waiting ∈ TT := TT_3 87 (by rfl) (by rfl)
theorem w_568 : Cond.selects "BlockTargetSessionModel" y_Md_waiting y_Md_waiting ∈ TT := TT_3 88 (by rfl) (by rfl)
theorem w_569 : Cond.code y_Md_waiting b_Md_waiting 2 (some .int) ∈ TT := TT_3 89 (by rfl) (by rfl)
theorem w_570 : Cond.methodLink "BlockTargetSessionLaw" 101 y_Md_count ∈ TT := TT_3 90 (by rfl) (by rfl)
theorem w_571 : Cond.instanceMethod y_Md_count ∈ TT := TT_3 91 (by rfl) (by rfl)
theorem w_572 : Cond.selects "BlockTargetSessionModel" y_Md_count y_Md_count ∈ TT := TT_3 92 (by rfl) (by rfl)
theorem w_573 : Cond.code y_Md_count b_Md_count 2 (some .int) ∈ TT := TT_3 93 (by rfl) (by rfl)
theorem wp_0 : Cond.selects "BlockTargetSession" y_Bs_beginSession y_Bs_beginSession ∈ TT := TT_p 0 (by rfl) (by rfl)
theorem wp_1 : Cond.selects "BlockTargetSession" y_Bs_addRequest y_Bs_addRequest ∈ TT := TT_p 1 (by rfl) (by rfl)
theorem wp_2 : Cond.selects "BlockTargetSession" y_Bs_firstOpenRequest y_Bs_firstOpenRequest ∈ TT := TT_p 2 (by rfl) (by rfl)
theorem wp_3 : Cond.selects "BlockTargetSession" y_Bs_sendUp y_Bs_sendUp ∈ TT := TT_p 3 (by rfl) (by rfl)
theorem wp_4 : Cond.selects "BlockTargetSession" y_Bs_lineOf y_Bs_lineOf ∈ TT := TT_p 4 (by rfl) (by rfl)
theorem wp_5 : Cond.selects "BlockTargetSession" y_Bs_breakSession y_Bs_breakSession ∈ TT := TT_p 5 (by rfl) (by rfl)
theorem wp_6 : Cond.selects "BlockTargetSession" y_Bs_workAtTarget y_Bs_workAtTarget ∈ TT := TT_p 6 (by rfl) (by rfl)
theorem wp_7 : Cond.selects "BlockTargetSession" y_Bs_requestAt y_Bs_requestAt ∈ TT := TT_p 7 (by rfl) (by rfl)
theorem wp_8 : Cond.selects "BlockTargetSession" y_Bs_workPartOfWrite y_Bs_workPartOfWrite ∈ TT := TT_p 8 (by rfl) (by rfl)
theorem wp_9 : Cond.selects "BlockTargetSession" y_Bs_sendDown y_Bs_sendDown ∈ TT := TT_p 9 (by rfl) (by rfl)
theorem wp_10 : Cond.selects "BlockTargetSession$Store" y_St_placeOf y_St_placeOf ∈ TT := TT_p 10 (by rfl) (by rfl)
theorem wp_11 : Cond.selects "BlockTargetSession" y_Bs_finish y_Bs_finish ∈ TT := TT_p 11 (by rfl) (by rfl)
theorem wp_12 : Cond.selects "BlockTargetSession" y_Bs_workRead y_Bs_workRead ∈ TT := TT_p 12 (by rfl) (by rfl)
theorem wp_13 : Cond.selects "BlockTargetSession" y_Bs_workSync y_Bs_workSync ∈ TT := TT_p 13 (by rfl) (by rfl)
theorem wp_14 : Cond.selects "BlockTargetSession" y_Bs_takeAtInitiator y_Bs_takeAtInitiator ∈ TT := TT_p 14 (by rfl) (by rfl)
theorem wp_15 : Cond.selects "BlockTargetSession" y_Bs_requestsIn y_Bs_requestsIn ∈ TT := TT_p 15 (by rfl) (by rfl)
theorem wp_16 : Cond.selects "BlockTargetSessionModel" y_Md_outside y_Md_outside ∈ TT := TT_p 16 (by rfl) (by rfl)
theorem wp_17 : Cond.selects "BlockTargetSessionModel" y_Md_add y_Md_add ∈ TT := TT_p 17 (by rfl) (by rfl)
theorem wp_18 : Cond.selects "BlockTargetSessionModel" y_Md_blockAt y_Md_blockAt ∈ TT := TT_p 18 (by rfl) (by rfl)
theorem wp_19 : Cond.selects "BlockTargetSessionModel" y_Md_number y_Md_number ∈ TT := TT_p 19 (by rfl) (by rfl)
theorem wp_20 : Cond.selects "BlockTargetSessionModel" y_Md_post y_Md_post ∈ TT := TT_p 20 (by rfl) (by rfl)
theorem wp_21 : Cond.selects "BlockTargetSessionModel" y_Md_end y_Md_end ∈ TT := TT_p 21 (by rfl) (by rfl)
theorem wp_22 : Cond.selects "BlockTargetSessionModel" y_Md_work y_Md_work ∈ TT := TT_p 22 (by rfl) (by rfl)
theorem wp_23 : Cond.selects "BlockTargetSessionModel" y_Md_putAll y_Md_putAll ∈ TT := TT_p 23 (by rfl) (by rfl)
theorem wp_24 : Cond.selects "BlockTargetSessionModel" y_Md_put y_Md_put ∈ TT := TT_p 24 (by rfl) (by rfl)
theorem wp_25 : Cond.selects "BlockTargetSessionModel" y_Md_size y_Md_size ∈ TT := TT_p 25 (by rfl) (by rfl)
theorem wp_26 : Cond.selects "BlockTargetSessionModel" y_Md_finish y_Md_finish ∈ TT := TT_p 26 (by rfl) (by rfl)
theorem wp_27 : Cond.selects "BlockTargetSessionModel" y_Md_valueOf y_Md_valueOf ∈ TT := TT_p 27 (by rfl) (by rfl)
theorem wp_28 : Cond.selects "BlockTargetSessionModel" y_Md_take y_Md_take ∈ TT := TT_p 28 (by rfl) (by rfl)
set_option maxRecDepth 20000 in
theorem in_Ln : ∀ w ∈ u_ws "BlockTargetSession$Line" F_Ln 2, w ∈ TT := by decide +kernel
theorem cl_Ln : cls[0]? = some ("BlockTargetSession$Line", F_Ln, 2) := rfl
set_option maxRecDepth 20000 in
theorem in_Ms : ∀ w ∈ u_ws "BlockTargetSession$Message" F_Ms 6, w ∈ TT := by decide +kernel
theorem cl_Ms : cls[1]? = some ("BlockTargetSession$Message", F_Ms, 6) := rfl
set_option maxRecDepth 20000 in
theorem in_Rq : ∀ w ∈ u_ws "BlockTargetSession$Request" F_Rq 6, w ∈ TT := by decide +kernel
theorem cl_Rq : cls[2]? = some ("BlockTargetSession$Request", F_Rq, 6) := rfl
set_option maxRecDepth 20000 in
theorem in_St : ∀ w ∈ u_ws "BlockTargetSession$Store" F_St 5, w ∈ TT := by decide +kernel
theorem cl_St : cls[3]? = some ("BlockTargetSession$Store", F_St, 5) := rfl
set_option maxRecDepth 20000 in
theorem in_Bs : ∀ w ∈ u_ws "BlockTargetSession" F_Bs 11, w ∈ TT := by decide +kernel
theorem cl_Bs : cls[4]? = some ("BlockTargetSession", F_Bs, 11) := rfl
set_option maxRecDepth 20000 in
theorem in_Md : ∀ w ∈ u_ws "BlockTargetSessionModel" F_Md 25, w ∈ TT := by decide +kernel
theorem cl_Md : cls[5]? = some ("BlockTargetSessionModel", F_Md, 25) := rfl
end
section
/-! Memory as a function: address to cell. Built on the kit's worlds (va_at, va_K, va_S). -/
abbrev Mem : Type := Nat → Option va_E
abbrev aI (c : ClassId) (n : Nat) (f : Nat → Int32) : va_E := .inl (c, n, .inl f)
abbrev aL (c : ClassId) (n : Nat) (f : Nat → Int64) : va_E := .inl (c, n, .inr (.inl f))
abbrev aQ (c : ClassId) (n : Nat) (f : Nat → Option Nat) : va_E := .inl (c, n, .inr (.inr (.inr (.inr f))))
abbrev ob (ci : Nat) (fs : List Value) : va_E := .inr (ci, fs)
def mset (M : Mem) (a : Nat) (e : va_E) : Mem := fun b => if b = a then some e else M b
theorem mset_self (M : Mem) (a : Nat) (e : va_E) : mset M a e a = some e := if_pos rfl
theorem mset_ne {M : Mem} {a b : Nat} {e : va_E} (h : b ≠ a) : mset M a e b = M b := if_neg h
theorem mset_set (M : Mem) (a : Nat) (e e' : va_E) : mset (mset M a e) a e' = mset M a e' := by
  funext b
  by_cases h : b = a
  · subst h; rw [mset_self, mset_self]
  · rw [mset_ne h, mset_ne h, mset_ne h]
theorem mset_comm (M : Mem) {a b : Nat} (e e' : va_E) (hab : a ≠ b) : mset (mset M a e) b e' = mset (mset M b e') a e := by
  funext c
  by_cases h : c = b
  · subst h; rw [mset_self, mset_ne (Ne.symm hab), mset_self]
  · rw [mset_ne h]
    by_cases h2 : c = a
    · subst h2; rw [mset_self, mset_self]
    · rw [mset_ne h2, mset_ne h2, mset_ne h]
theorem mset_id {M : Mem} {a : Nat} {e : va_E} (h : M a = some e) : mset M a e = M := by
  funext b
  by_cases hb : b = a
  · subst hb; rw [mset_self, h]
  · rw [mset_ne hb]
/-- a cell's kind: two cells of different kinds lie apart -/
def kd : va_E → Nat × Nat
  | .inl (_, _, .inl _) => (0, 0)
  | .inl (_, _, .inr (.inl _)) => (0, 1)
  | .inl (_, _, .inr (.inr _)) => (0, 2)
  | .inr (c, _) => (1, c)
theorem mne {M : Mem} {a b : Nat} {e e' : va_E} (h1 : M a = some e) (h2 : M b = some e') (h : (kd e == kd e') = false) : a ≠ b := by
  intro hab
  subst hab
  rw [h1] at h2
  cases h2
  simp at h
def mm_h (D : va_G) (cl : List vw_C) (M : Mem) (H : Heap) : Prop := ∀ (a : Nat) (e : va_E), M a = some e → va_at D cl (a, e) H
def mm_ok (D : va_G) (cl : List vw_C) (A : Nat → Prop) (M : Mem) (H : Heap) : Prop := ∀ (a : Nat) (e : va_E), M a = some e → A a ∧ va_at D cl (a, e) H
def mm_A (M : Mem) (sz : Nat) : Nat → Prop := fun q => (∃ e, M q = some e) ∨ sz ≤ q
section MMB
variable {D : va_G} {cl : List vw_C} {A : Nat → Prop} {M : Mem} {H H1 : Heap} {a : Nat} {e : va_E}
theorem mm_ok.one (h : mm_ok D cl A M H) (ha : M a = some e) : va_P D cl [(a, e)] H := by
  intro k q hk
  cases k with
  | zero => cases hk; exact (h a e ha).2
  | succ n => simp at hk
theorem mm_ok.lt (h : mm_ok D cl A M H) (ha : M a = some e) : a < H.size := (h a e ha).2.lt
theorem mm_ok.fresh (h : mm_ok D cl A M H) : M H.size = none := by
  cases hx : M H.size with
  | none => rfl
  | some e => exact absurd (h.lt hx) (Nat.lt_irrefl _)
theorem mm_ok.set (h : mm_ok D cl A M H) (ha : A a) (he : va_at D cl (a, e) H1) (oq : ∀ q : Nat, q ≠ a → H1[q]? = H[q]?) : mm_ok D cl A (mset M a e) H1 := by
  intro b x hb
  by_cases hba : b = a
  · subst hba
    rw [mset_self] at hb
    cases hb
    exact ⟨ha, he⟩
  · rw [mset_ne hba] at hb
    exact ⟨(h b x hb).1, (h b x hb).2.kept (oq b hba)⟩
theorem mm_ok.push (h : mm_ok D cl A M H) (hA : A H.size) (he : va_at D cl (H.size, e) H1) (o1 : ∀ q : Nat, q < H.size → H1[q]? = H[q]?) : mm_ok D cl A (mset M H.size e) H1 := by
  intro b x hb
  by_cases hba : b = H.size
  · subst hba
    rw [mset_self] at hb
    cases hb
    exact ⟨hA, he⟩
  · rw [mset_ne hba] at hb
    exact ⟨(h b x hb).1, (h b x hb).2.kept (o1 b (h.lt hb))⟩
theorem mm_ok.self (h : mm_h D cl M H) (sz : Nat) : mm_ok D cl (mm_A M sz) M H := fun a e ha => ⟨Or.inl ⟨e, ha⟩, h a e ha⟩
theorem mm_ok.h (h : mm_ok D cl A M H) : mm_h D cl M H := fun a e ha => (h a e ha).2
theorem mm_ok.weaken {B : Nat → Prop} (h : mm_ok D cl A M H) (hAB : ∀ q, A q → B q) : mm_ok D cl B M H := fun a e ha => ⟨hAB a (h a e ha).1, (h a e ha).2⟩
end MMB
def lget : List (Nat × Value) → Nat → Option Value
  | [], _ => none
  | q :: r, i => if q.1 = i then some q.2 else lget r i
theorem lget_mem {l : List (Nat × Value)} {i : Nat} {v : Value} (h : lget l i = some v) : (i, v) ∈ l := by
  induction l with
  | nil => cases h
  | cons q r ih =>
    unfold lget at h
    by_cases hq : q.1 = i
    · rw [if_pos hq] at h
      cases h
      subst hq
      exact List.mem_cons_self
    · rw [if_neg hq] at h
      exact List.mem_cons_of_mem _ (ih h)
theorem lget_at {ls : Array Slot} {nL : Nat} {l : List (Nat × Value)} (h : lv_has ls nL l) {i : Nat} {v : Value} (hk : lget l i = some v) : ls[i]? = some (.val v) := h.2.2 (i, v) (lget_mem hk)
/-- the words of the tables, whatever the arguments -/
def tw (T : List Cond) (U : State) : Prop := ∀ w ∈ T, ∀ a : Array Value, w.before a U = true
def Kw (T : List Cond) (D : va_G) (cl : List vw_C) (tys : List (ClassId × FieldType)) (U : State) : Prop := va_K D cl tys U ∧ tw T U
theorem mov_at {w : Cond} (hm : mov w = true) {s U : State} (hW : s.WarmedH U.vm) (h : ∀ a : Array Value, w.before a s = true) (a' : Array Value) : w.before a' U = true := by
  cases w <;> first
    | exact word_at hW (Or.inl hm) (h #[])
    | exact word_at hW (Or.inr ⟨_, rfl⟩) (h #[])
    | exact va_Nw.use rfl (va_Nw.warmF hW (h #[]))
    | exact va_Nw.use rfl (va_Nw.warmM hW (h #[]))
    | (rename_i ty; cases ty <;> first | exact va_AO.use (va_AO.moved hW.alike (va_AO.of (h #[]))) | (simp [mov, Cond.onTables] at hm))
theorem tw.moved {T : List Cond} (hT : ∀ w ∈ T, mov w = true) {s U : State} (hW : s.WarmedH U.vm) (h : tw T s) : tw T U := fun w hw a => mov_at (hT w hw) hW (h w hw) a
theorem Kw.moved {T : List Cond} {D : va_G} {cl : List vw_C} {tys : List (ClassId × FieldType)} (hT : ∀ w ∈ T, mov w = true) {s U : State} (hW : s.WarmedH U.vm) (h : Kw T D cl tys s) : Kw T D cl tys U := ⟨va_K.moved hW.alike h.1, h.2.moved hT hW⟩
/-- a walk's context: tables' names, what may be written, the machine, the goal -/
abbrev Zt : Type := va_G × (Nat → Prop) × Program × Launch × Env × State × MethodId × Array Value × List Frame × Method × Code × (State → Prop)
abbrev Zt.D (Z : Zt) : va_G := Z.1
abbrev Zt.A (Z : Zt) : Nat → Prop := Z.2.1
abbrev Zt.p (Z : Zt) : Program := Z.2.2.1
abbrev Zt.l (Z : Zt) : Launch := Z.2.2.2.1
abbrev Zt.e (Z : Zt) : Env := Z.2.2.2.2.1
abbrev Zt.s (Z : Zt) : State := Z.2.2.2.2.2.1
abbrev Zt.m (Z : Zt) : MethodId := Z.2.2.2.2.2.2.1
abbrev Zt.args (Z : Zt) : Array Value := Z.2.2.2.2.2.2.2.1
abbrev Zt.below (Z : Zt) : List Frame := Z.2.2.2.2.2.2.2.2.1
abbrev Zt.meth (Z : Zt) : Method := Z.2.2.2.2.2.2.2.2.2.1
abbrev Zt.c (Z : Zt) : Code := Z.2.2.2.2.2.2.2.2.2.2.1
abbrev Zt.Q (Z : Zt) : State → Prop := Z.2.2.2.2.2.2.2.2.2.2.2
/-- what a method's walk stands on -/
def Cx (T : List Cond) (cl : List vw_C) (tys : List (ClassId × FieldType)) (own : String) (cc : ByteArray) (nL : Nat) (ret : Option FieldType) (Z : Zt) : Prop :=
  Z.p.tables.exec = Jvm.exec ∧ Z.c.code = cc ∧ Z.c.maxLocals = nL ∧ Z.s.vm.findClass own = some Z.m.cls ∧ Z.meth.sig.returnType = ret ∧ Z.meth.locks = false ∧ (∀ q, Z.s.heap.size ≤ q → Z.A q) ∧ (∀ w ∈ T, mov w = true) ∧ Kw T Z.D cl tys Z.s
def V (cl : List vw_C) (nL : Nat) (R : Room) (Z : Zt) (pc : Nat) (lv : List (Nat × Value)) (st : List Value) (M : Mem) (k n : Nat) : Prop :=
  ∀ (H : Heap) (locs : List Loc) (ls : Array Slot), lv_has ls nL lv → mm_ok Z.D cl Z.A M H → va_S Z.A Z.s.heap H locs → W Z.p Z.l Z.e R Z.s Z.m Z.args Z.below Z.meth Z.c H locs k n Z.Q (F0 Z.m pc ls st)
/-- the end of a contract -/
def mq (post : Option Value → Mem → Prop) (D : va_G) (cl : List vw_C) (A : Nat → Prop) : Array Value → State → Outcome → State → Prop := fun _ st oc t => (∃ (rv : Option Value) (M' : Mem), oc = .returned rv ∧ post rv M' ∧ mm_ok D cl A M' t.heap) ∧ va_F A st t
def rmOf (fr lo mc ms : Nat) : Room := { frames := fr, cells := mc, slots := ms, locals := lo }
/-- a method's contract: called with av over a memory M it returns, with post -/
def Ct (T : List Cond) (D : va_G) (cl : List vw_C) (tys : List (ClassId × FieldType)) (l : Launch) (y : MethodName) (cc : ByteArray) (maxL : Nat) (ret : Option FieldType) (fr lo mc ms : Nat) (av : List Value) (M : Mem) (post : Option Value → Mem → Prop) : Prop :=
  ∀ sz : Nat, Met l y [.code y cc maxL ret] (rmOf fr lo mc ms) (va_Pc av (fun U => U.heap.size = sz ∧ mm_h D cl M U.heap ∧ (∀ w ∈ T, mov w = true) ∧ Kw T D cl tys U)) (mq post D cl (mm_A M sz)) mc ms (mm_A M sz)

section VV
variable {T : List Cond} {cl : List vw_C} {tys : List (ClassId × FieldType)} {own : String} {cc : ByteArray} {nL : Nat} {ret : Option FieldType}
variable {R : Room} {Z : Zt} {pc : Nat} {lv : List (Nat × Value)} {st : List Value} {M : Mem} {k n : Nat}
theorem V.widen {k' n' : Nat} (h1 : k ≤ k') (h2 : n ≤ n') (kk : V cl nL R Z pc lv st M k' n') : V cl nL R Z pc lv st M k n := fun H locs ls hl hm hS => W.widen h1 h2 (kk H locs ls hl hm hS)
theorem V.pick {lv' : List (Nat × Value)} (ks : List Nat) (h : lv_pick lv ks = lv') (kk : V cl nL R Z pc lv' st M k n) : V cl nL R Z pc lv st M k n := fun H locs ls hl hm hS => kk H locs ls (lv_sub hl ks h) hm hS
theorem V.topi {x : Int32} (kk : ∀ y : Int32, y = x → V cl nL R Z pc lv (.int y :: st) M k n) : V cl nL R Z pc lv (.int x :: st) M k n := kk x rfl
theorem V.eqst {st' : List Value} (h : st = st') (kk : V cl nL R Z pc lv st' M k n) : V cl nL R Z pc lv st M k n := h ▸ kk
theorem V.eqM {M' : Mem} (h : M = M') (kk : V cl nL R Z pc lv st M' k n) : V cl nL R Z pc lv st M k n := h ▸ kk
theorem V.cs {k' n' : Nat} (h1 : k = k') (h2 : n = n') (kk : V cl nL R Z pc lv st M k' n') : V cl nL R Z pc lv st M k n := by subst h1; subst h2; exact kk
theorem v_iconst (C : Cx T cl tys own cc nL ret Z) {z : Int} {v : Int32} (hdg : decode cc pc = .ok (.iconst z, 1)) (hv : Int32.ofInt z = v) (kk : V cl nL R Z (pc + 1) lv (.int v :: st) M k n) : V cl nL R Z pc lv st M k n := fun H locs ls hl hm hS => lv_iconst C.1 C.2.1 hdg hv (kk H locs ls hl hm hS)
theorem v_bipush (C : Cx T cl tys own cc nL ret Z) {z : Int} {v : Int32} (hdg : decode cc pc = .ok (.bipush z, 2)) (hv : (Int8.ofInt z).toInt32 = v) (kk : V cl nL R Z (pc + 2) lv (.int v :: st) M k n) : V cl nL R Z pc lv st M k n := fun H locs ls hl hm hS => lv_bipush C.1 C.2.1 hdg hv (kk H locs ls hl hm hS)
theorem v_sipush (C : Cx T cl tys own cc nL ret Z) {z : Int} {v : Int32} (hdg : decode cc pc = .ok (.sipush z, 3)) (hv : (Int16.ofInt z).toInt32 = v) (kk : V cl nL R Z (pc + 3) lv (.int v :: st) M k n) : V cl nL R Z pc lv st M k n := fun H locs ls hl hm hS => lv_sipush C.1 C.2.1 hdg hv (kk H locs ls hl hm hS)
theorem v_lconst (C : Cx T cl tys own cc nL ret Z) {z : Fin 2} {v : Int64} (hdg : decode cc pc = .ok (.lconst z, 1)) (hv : Int64.ofNat (z : Nat) = v) (kk : V cl nL R Z (pc + 1) lv (.long v :: st) M k n) : V cl nL R Z pc lv st M k n := fun H locs ls hl hm hS => lv_lconst C.1 C.2.1 hdg hv (kk H locs ls hl hm hS)
theorem v_iload_n (C : Cx T cl tys own cc nL ret Z) {j : Fin 4} {i : Nat} {x : Int32} (hdg : decode cc pc = .ok (.iload_n j, 1)) (hi : (j : Nat) = i) (hg : lget lv i = some (.int x)) (kk : V cl nL R Z (pc + 1) lv (.int x :: st) M k n) : V cl nL R Z pc lv st M k n := fun H locs ls hl hm hS => lv_iload_n C.1 C.2.1 hdg hi (lget_at hl hg) (kk H locs ls hl hm hS)
theorem v_iload (C : Cx T cl tys own cc nL ret Z) {i : Nat} {x : Int32} (hdg : decode cc pc = .ok (.iload i, 2)) (hg : lget lv i = some (.int x)) (kk : V cl nL R Z (pc + 2) lv (.int x :: st) M k n) : V cl nL R Z pc lv st M k n := fun H locs ls hl hm hS => lv_iload C.1 C.2.1 hdg (lget_at hl hg) (kk H locs ls hl hm hS)
theorem v_lload_n (C : Cx T cl tys own cc nL ret Z) {j : Fin 4} {i : Nat} {x : Int64} (hdg : decode cc pc = .ok (.lload_n j, 1)) (hi : (j : Nat) = i) (hg : lget lv i = some (.long x)) (kk : V cl nL R Z (pc + 1) lv (.long x :: st) M k n) : V cl nL R Z pc lv st M k n := fun H locs ls hl hm hS => lv_lload_n C.1 C.2.1 hdg hi (lget_at hl hg) (kk H locs ls hl hm hS)
theorem v_lload (C : Cx T cl tys own cc nL ret Z) {i : Nat} {x : Int64} (hdg : decode cc pc = .ok (.lload i, 2)) (hg : lget lv i = some (.long x)) (kk : V cl nL R Z (pc + 2) lv (.long x :: st) M k n) : V cl nL R Z pc lv st M k n := fun H locs ls hl hm hS => lv_lload C.1 C.2.1 hdg (lget_at hl hg) (kk H locs ls hl hm hS)
theorem v_aload_n (C : Cx T cl tys own cc nL ret Z) {j : Fin 4} {i : Nat} {x : Nat} (hdg : decode cc pc = .ok (.aload_n j, 1)) (hi : (j : Nat) = i) (hg : lget lv i = some (.ref x)) (kk : V cl nL R Z (pc + 1) lv (.ref x :: st) M k n) : V cl nL R Z pc lv st M k n := fun H locs ls hl hm hS => lv_aload_n C.1 C.2.1 hdg hi (lget_at hl hg) (kk H locs ls hl hm hS)
theorem v_aload (C : Cx T cl tys own cc nL ret Z) {i : Nat} {x : Nat} (hdg : decode cc pc = .ok (.aload i, 2)) (hg : lget lv i = some (.ref x)) (kk : V cl nL R Z (pc + 2) lv (.ref x :: st) M k n) : V cl nL R Z pc lv st M k n := fun H locs ls hl hm hS => lv_aload C.1 C.2.1 hdg (lget_at hl hg) (kk H locs ls hl hm hS)
theorem v_aload_nN (C : Cx T cl tys own cc nL ret Z) {j : Fin 4} {i : Nat} (hdg : decode cc pc = .ok (.aload_n j, 1)) (hi : (j : Nat) = i) (hg : lget lv i = some .null) (kk : V cl nL R Z (pc + 1) lv (.null :: st) M k n) : V cl nL R Z pc lv st M k n := fun H locs ls hl hm hS => lv_aload_nN C.1 C.2.1 hdg hi (lget_at hl hg) (kk H locs ls hl hm hS)
theorem v_aloadN (C : Cx T cl tys own cc nL ret Z) {i : Nat} (hdg : decode cc pc = .ok (.aload i, 2)) (hg : lget lv i = some .null) (kk : V cl nL R Z (pc + 2) lv (.null :: st) M k n) : V cl nL R Z pc lv st M k n := fun H locs ls hl hm hS => lv_aloadN C.1 C.2.1 hdg (lget_at hl hg) (kk H locs ls hl hm hS)
theorem v_istore_n (C : Cx T cl tys own cc nL ret Z) {j : Fin 4} {i : Nat} {x : Int32} {lv' : List (Nat × Value)} (hdg : decode cc pc = .ok (.istore_n j, 1)) (hi : (j : Nat) = i) (hn : i < nL) (he : (i, (Value.int x)) :: lv.filter (fun q => !(q.1 == i) && !(q.1 + 1 == i && q.2.category == 2)) = lv') (kk : V cl nL R Z (pc + 1) lv' st M k n) : V cl nL R Z pc lv (.int x :: st) M k n := fun H locs ls hl hm hS => lv_istore_n C.1 C.2.1 hdg hi hl hn he (fun ls' hl' => kk H locs ls' hl' hm hS)
theorem v_istore (C : Cx T cl tys own cc nL ret Z)  {i : Nat} {x : Int32} {lv' : List (Nat × Value)} (hdg : decode cc pc = .ok (.istore i, 2))  (hn : i < nL) (he : (i, (Value.int x)) :: lv.filter (fun q => !(q.1 == i) && !(q.1 + 1 == i && q.2.category == 2)) = lv') (kk : V cl nL R Z (pc + 2) lv' st M k n) : V cl nL R Z pc lv (.int x :: st) M k n := fun H locs ls hl hm hS => lv_istore C.1 C.2.1 hdg hl hn he (fun ls' hl' => kk H locs ls' hl' hm hS)
theorem v_lstore_n (C : Cx T cl tys own cc nL ret Z) {j : Fin 4} {i : Nat} {x : Int64} {lv' : List (Nat × Value)} (hdg : decode cc pc = .ok (.lstore_n j, 1)) (hi : (j : Nat) = i) (hn : i + 1 < nL) (he : (i, (Value.long x)) :: lv.filter (fun q => !(q.1 == i) && (!(q.1 == i + 1) && !(q.1 + 1 == i && q.2.category == 2))) = lv') (kk : V cl nL R Z (pc + 1) lv' st M k n) : V cl nL R Z pc lv (.long x :: st) M k n := fun H locs ls hl hm hS => lv_lstore_n C.1 C.2.1 hdg hi hl hn he (fun ls' hl' => kk H locs ls' hl' hm hS)
theorem v_lstore (C : Cx T cl tys own cc nL ret Z)  {i : Nat} {x : Int64} {lv' : List (Nat × Value)} (hdg : decode cc pc = .ok (.lstore i, 2))  (hn : i + 1 < nL) (he : (i, (Value.long x)) :: lv.filter (fun q => !(q.1 == i) && (!(q.1 == i + 1) && !(q.1 + 1 == i && q.2.category == 2))) = lv') (kk : V cl nL R Z (pc + 2) lv' st M k n) : V cl nL R Z pc lv (.long x :: st) M k n := fun H locs ls hl hm hS => lv_lstore C.1 C.2.1 hdg hl hn he (fun ls' hl' => kk H locs ls' hl' hm hS)
theorem v_astore_n (C : Cx T cl tys own cc nL ret Z) {j : Fin 4} {i : Nat} {x : Nat} {lv' : List (Nat × Value)} (hdg : decode cc pc = .ok (.astore_n j, 1)) (hi : (j : Nat) = i) (hn : i < nL) (he : (i, (Value.ref x)) :: lv.filter (fun q => !(q.1 == i) && !(q.1 + 1 == i && q.2.category == 2)) = lv') (kk : V cl nL R Z (pc + 1) lv' st M k n) : V cl nL R Z pc lv (.ref x :: st) M k n := fun H locs ls hl hm hS => lv_astore_n C.1 C.2.1 hdg hi hl hn he (fun ls' hl' => kk H locs ls' hl' hm hS)
theorem v_astore (C : Cx T cl tys own cc nL ret Z)  {i : Nat} {x : Nat} {lv' : List (Nat × Value)} (hdg : decode cc pc = .ok (.astore i, 2))  (hn : i < nL) (he : (i, (Value.ref x)) :: lv.filter (fun q => !(q.1 == i) && !(q.1 + 1 == i && q.2.category == 2)) = lv') (kk : V cl nL R Z (pc + 2) lv' st M k n) : V cl nL R Z pc lv (.ref x :: st) M k n := fun H locs ls hl hm hS => lv_astore C.1 C.2.1 hdg hl hn he (fun ls' hl' => kk H locs ls' hl' hm hS)
theorem v_astore_nN (C : Cx T cl tys own cc nL ret Z) {j : Fin 4} {i : Nat}  {lv' : List (Nat × Value)} (hdg : decode cc pc = .ok (.astore_n j, 1)) (hi : (j : Nat) = i) (hn : i < nL) (he : (i, Value.null) :: lv.filter (fun q => !(q.1 == i) && !(q.1 + 1 == i && q.2.category == 2)) = lv') (kk : V cl nL R Z (pc + 1) lv' st M k n) : V cl nL R Z pc lv (.null :: st) M k n := fun H locs ls hl hm hS => lv_astore_nN C.1 C.2.1 hdg hi hl hn he (fun ls' hl' => kk H locs ls' hl' hm hS)
theorem v_astoreN (C : Cx T cl tys own cc nL ret Z)  {i : Nat}  {lv' : List (Nat × Value)} (hdg : decode cc pc = .ok (.astore i, 2))  (hn : i < nL) (he : (i, Value.null) :: lv.filter (fun q => !(q.1 == i) && !(q.1 + 1 == i && q.2.category == 2)) = lv') (kk : V cl nL R Z (pc + 2) lv' st M k n) : V cl nL R Z pc lv (.null :: st) M k n := fun H locs ls hl hm hS => lv_astoreN C.1 C.2.1 hdg hl hn he (fun ls' hl' => kk H locs ls' hl' hm hS)
theorem v_iinc (C : Cx T cl tys own cc nL ret Z) {i j : Nat} {z : Int} {x v : Int32} {lv' : List (Nat × Value)} (hdg : decode cc pc = .ok (.iinc i z, 3)) (hj : lv[j]? = some (i, .int x)) (hv : x + Int32.ofInt z = v) (hn : i < nL) (he : (i, Value.int v) :: lv.filter (fun q => !(q.1 == i) && !(q.1 + 1 == i && q.2.category == 2)) = lv') (kk : V cl nL R Z (pc + 3) lv' st M k n) : V cl nL R Z pc lv st M k n := fun H locs ls hl hm hS => lv_iinc C.1 C.2.1 hdg hl hj hv hn he (fun ls' hl' => kk H locs ls' hl' hm hS)
theorem v_iadd (C : Cx T cl tys own cc nL ret Z) {x y : Int32} (hdg : decode cc pc = .ok (.iadd, 1))  (kk : V cl nL R Z (pc + 1) lv (.int (x + y) :: st) M k n) : V cl nL R Z pc lv (.int y :: .int x :: st) M k n := fun H locs ls hl hm hS => lv_iadd C.1 C.2.1 hdg (kk H locs ls hl hm hS)
theorem v_isub (C : Cx T cl tys own cc nL ret Z) {x y : Int32} (hdg : decode cc pc = .ok (.isub, 1))  (kk : V cl nL R Z (pc + 1) lv (.int (x - y) :: st) M k n) : V cl nL R Z pc lv (.int y :: .int x :: st) M k n := fun H locs ls hl hm hS => lv_isub C.1 C.2.1 hdg (kk H locs ls hl hm hS)
theorem v_imul (C : Cx T cl tys own cc nL ret Z) {x y : Int32} (hdg : decode cc pc = .ok (.imul, 1))  (kk : V cl nL R Z (pc + 1) lv (.int (x * y) :: st) M k n) : V cl nL R Z pc lv (.int y :: .int x :: st) M k n := fun H locs ls hl hm hS => lv_imul C.1 C.2.1 hdg (kk H locs ls hl hm hS)
theorem v_iand (C : Cx T cl tys own cc nL ret Z) {x y : Int32} (hdg : decode cc pc = .ok (.iand, 1))  (kk : V cl nL R Z (pc + 1) lv (.int (x &&& y) :: st) M k n) : V cl nL R Z pc lv (.int y :: .int x :: st) M k n := fun H locs ls hl hm hS => lv_iand C.1 C.2.1 hdg (kk H locs ls hl hm hS)
theorem v_ior (C : Cx T cl tys own cc nL ret Z) {x y : Int32} (hdg : decode cc pc = .ok (.ior, 1))  (kk : V cl nL R Z (pc + 1) lv (.int (x ||| y) :: st) M k n) : V cl nL R Z pc lv (.int y :: .int x :: st) M k n := fun H locs ls hl hm hS => lv_ior C.1 C.2.1 hdg (kk H locs ls hl hm hS)
theorem v_ixor (C : Cx T cl tys own cc nL ret Z) {x y : Int32} (hdg : decode cc pc = .ok (.ixor, 1))  (kk : V cl nL R Z (pc + 1) lv (.int (x ^^^ y) :: st) M k n) : V cl nL R Z pc lv (.int y :: .int x :: st) M k n := fun H locs ls hl hm hS => lv_ixor C.1 C.2.1 hdg (kk H locs ls hl hm hS)
theorem v_idiv (C : Cx T cl tys own cc nL ret Z) {x y : Int32} (hdg : decode cc pc = .ok (.idiv, 1)) (hne : ¬ y = 0) (kk : V cl nL R Z (pc + 1) lv (.int (x / y) :: st) M k n) : V cl nL R Z pc lv (.int y :: .int x :: st) M k n := fun H locs ls hl hm hS => lv_idiv C.1 C.2.1 hdg hne (kk H locs ls hl hm hS)
theorem v_irem (C : Cx T cl tys own cc nL ret Z) {x y : Int32} (hdg : decode cc pc = .ok (.irem, 1)) (hne : ¬ y = 0) (kk : V cl nL R Z (pc + 1) lv (.int (x - x / y * y) :: st) M k n) : V cl nL R Z pc lv (.int y :: .int x :: st) M k n := fun H locs ls hl hm hS => lv_irem C.1 C.2.1 hdg hne (kk H locs ls hl hm hS)
theorem v_ineg (C : Cx T cl tys own cc nL ret Z) {x : Int32} (hdg : decode cc pc = .ok (.ineg, 1))  (kk : V cl nL R Z (pc + 1) lv (.int (-x) :: st) M k n) : V cl nL R Z pc lv (.int x :: st) M k n := fun H locs ls hl hm hS => lv_ineg C.1 C.2.1 hdg (kk H locs ls hl hm hS)
theorem v_ladd (C : Cx T cl tys own cc nL ret Z) {x y : Int64} (hdg : decode cc pc = .ok (.ladd, 1))  (kk : V cl nL R Z (pc + 1) lv (.long (x + y) :: st) M k n) : V cl nL R Z pc lv (.long y :: .long x :: st) M k n := fun H locs ls hl hm hS => lv_ladd C.1 C.2.1 hdg (kk H locs ls hl hm hS)
theorem v_lsub (C : Cx T cl tys own cc nL ret Z) {x y : Int64} (hdg : decode cc pc = .ok (.lsub, 1))  (kk : V cl nL R Z (pc + 1) lv (.long (x - y) :: st) M k n) : V cl nL R Z pc lv (.long y :: .long x :: st) M k n := fun H locs ls hl hm hS => lv_lsub C.1 C.2.1 hdg (kk H locs ls hl hm hS)
theorem v_lmul (C : Cx T cl tys own cc nL ret Z) {x y : Int64} (hdg : decode cc pc = .ok (.lmul, 1))  (kk : V cl nL R Z (pc + 1) lv (.long (x * y) :: st) M k n) : V cl nL R Z pc lv (.long y :: .long x :: st) M k n := fun H locs ls hl hm hS => lv_lmul C.1 C.2.1 hdg (kk H locs ls hl hm hS)
theorem v_i2l (C : Cx T cl tys own cc nL ret Z) {x : Int32} {v : Int64} (hdg : decode cc pc = .ok (.i2l, 1)) (hv : x.toInt64 = v) (kk : V cl nL R Z (pc + 1) lv (.long v :: st) M k n) : V cl nL R Z pc lv (.int x :: st) M k n := fun H locs ls hl hm hS => lv_i2l C.1 C.2.1 hdg hv (kk H locs ls hl hm hS)
theorem v_l2i (C : Cx T cl tys own cc nL ret Z) {x : Int64} {v : Int32} (hdg : decode cc pc = .ok (.l2i, 1)) (hv : x.toInt32 = v) (kk : V cl nL R Z (pc + 1) lv (.int v :: st) M k n) : V cl nL R Z pc lv (.long x :: st) M k n := fun H locs ls hl hm hS => lv_l2i C.1 C.2.1 hdg hv (kk H locs ls hl hm hS)
theorem v_lcmp (C : Cx T cl tys own cc nL ret Z) {x y : Int64} (hdg : decode cc pc = .ok (.lcmp, 1)) (kk : V cl nL R Z (pc + 1) lv (.int (lg_cmp x y) :: st) M k n) : V cl nL R Z pc lv (.long y :: .long x :: st) M k n := fun H locs ls hl hm hS => W.lcmp C.1 C.2.1 hdg (kk H locs ls hl hm hS)
theorem v_dup (C : Cx T cl tys own cc nL ret Z) {va : Value} (hdg : decode cc pc = .ok (.dup, 1)) (h1 : va.category = 1) (kk : V cl nL R Z (pc + 1) lv (va :: va :: st) M k n) : V cl nL R Z pc lv (va :: st) M k n := fun H locs ls hl hm hS => lv_dup C.1 C.2.1 hdg h1 (kk H locs ls hl hm hS)
theorem v_pop (C : Cx T cl tys own cc nL ret Z) {va : Value} (hdg : decode cc pc = .ok (.pop, 1)) (h1 : va.category = 1) (kk : V cl nL R Z (pc + 1) lv st M k n) : V cl nL R Z pc lv (va :: st) M k n := fun H locs ls hl hm hS => lv_pop C.1 C.2.1 hdg h1 (kk H locs ls hl hm hS)
theorem v_dup_x1 (C : Cx T cl tys own cc nL ret Z) {va vb : Value} (hdg : decode cc pc = .ok (.dup_x1, 1)) (h1 : va.category = 1) (h2 : vb.category = 1) (kk : V cl nL R Z (pc + 1) lv (va :: vb :: va :: st) M k n) : V cl nL R Z pc lv (va :: vb :: st) M k n := fun H locs ls hl hm hS => lv_dup_x1 C.1 C.2.1 hdg h1 h2 (kk H locs ls hl hm hS)
theorem v_dup_x2 (C : Cx T cl tys own cc nL ret Z) {va vb vd : Value} (hdg : decode cc pc = .ok (.dup_x2, 1)) (h1 : va.category = 1) (h2 : vb.category = 1) (h3 : vd.category = 1) (kk : V cl nL R Z (pc + 1) lv (va :: vb :: vd :: va :: st) M k n) : V cl nL R Z pc lv (va :: vb :: vd :: st) M k n := fun H locs ls hl hm hS => lv_dup_x2 C.1 C.2.1 hdg h1 h2 h3 (kk H locs ls hl hm hS)
theorem v_dup2_11 (C : Cx T cl tys own cc nL ret Z) {va vb : Value} (hdg : decode cc pc = .ok (.dup2, 1)) (h1 : va.category = 1) (h2 : vb.category = 1) (kk : V cl nL R Z (pc + 1) lv (va :: vb :: va :: vb :: st) M k n) : V cl nL R Z pc lv (va :: vb :: st) M k n := fun H locs ls hl hm hS => lv_dup2_11 C.1 C.2.1 hdg h1 h2 (kk H locs ls hl hm hS)
theorem v_null (C : Cx T cl tys own cc nL ret Z)  (hdg : decode cc pc = .ok (.aconst_null, 1))  (kk : V cl nL R Z (pc + 1) lv (.null :: st) M k n) : V cl nL R Z pc lv st M k n := fun H locs ls hl hm hS => lv_null C.1 C.2.1 hdg (kk H locs ls hl hm hS)
theorem v_ifnull (C : Cx T cl tys own cc nL ret Z) {x : Nat} {off : Int} (hdg : decode cc pc = .ok (.ifnull off, 3))  (kk : V cl nL R Z (pc + 3) lv st M k n) : V cl nL R Z pc lv (.ref x :: st) M k n := fun H locs ls hl hm hS => lv_ifnull C.1 C.2.1 hdg (kk H locs ls hl hm hS)
theorem v_ifnonnullN (C : Cx T cl tys own cc nL ret Z) {off : Int} (hdg : decode cc pc = .ok (.ifnonnull off, 3))  (kk : V cl nL R Z (pc + 3) lv st M k n) : V cl nL R Z pc lv (.null :: st) M k n := fun H locs ls hl hm hS => lv_ifnonnullN C.1 C.2.1 hdg (kk H locs ls hl hm hS)
theorem v_goto (C : Cx T cl tys own cc nL ret Z)  {off : Int} (tgt : Nat) (hdg : decode cc pc = .ok (.goto off, 3)) (ht : (pc : Int) + off = (tgt : Int)) (kk : V cl nL R Z tgt lv st M k n) : V cl nL R Z pc lv st M k n := fun H locs ls hl hm hS => lv_goto C.1 C.2.1 hdg ht (kk H locs ls hl hm hS)
theorem v_ifnonnull (C : Cx T cl tys own cc nL ret Z) {x : Nat} {off : Int} (tgt : Nat) (hdg : decode cc pc = .ok (.ifnonnull off, 3)) (ht : (pc : Int) + off = (tgt : Int)) (kk : V cl nL R Z tgt lv st M k n) : V cl nL R Z pc lv (.ref x :: st) M k n := fun H locs ls hl hm hS => lv_ifnonnull C.1 C.2.1 hdg ht (kk H locs ls hl hm hS)
theorem v_ifnullN (C : Cx T cl tys own cc nL ret Z)  {off : Int} (tgt : Nat) (hdg : decode cc pc = .ok (.ifnull off, 3)) (ht : (pc : Int) + off = (tgt : Int)) (kk : V cl nL R Z tgt lv st M k n) : V cl nL R Z pc lv (.null :: st) M k n := fun H locs ls hl hm hS => lv_ifnullN C.1 C.2.1 hdg ht (kk H locs ls hl hm hS)
theorem v_if_eq (C : Cx T cl tys own cc nL ret Z) {x : Int32} {off : Int} (tgt : Nat) (hdg : decode cc pc = .ok (.ifCond .eq off, 3)) (ht : (pc : Int) + off = (tgt : Int)) (kt : x = 0 → V cl nL R Z tgt lv st M k n) (kf : ¬ x = 0 → V cl nL R Z (pc + 3) lv st M k n) : V cl nL R Z pc lv (.int x :: st) M k n := fun H locs ls hl hm hS => lv_if_eq C.1 C.2.1 hdg ht (fun q => kt q H locs ls hl hm hS) (fun q => kf q H locs ls hl hm hS)
theorem v_if_lt (C : Cx T cl tys own cc nL ret Z) {x : Int32} {off : Int} (tgt : Nat) (hdg : decode cc pc = .ok (.ifCond .lt off, 3)) (ht : (pc : Int) + off = (tgt : Int)) (kt : x < 0 → V cl nL R Z tgt lv st M k n) (kf : ¬ x < 0 → V cl nL R Z (pc + 3) lv st M k n) : V cl nL R Z pc lv (.int x :: st) M k n := fun H locs ls hl hm hS => lv_if_lt C.1 C.2.1 hdg ht (fun q => kt q H locs ls hl hm hS) (fun q => kf q H locs ls hl hm hS)
theorem v_if_ge (C : Cx T cl tys own cc nL ret Z) {x : Int32} {off : Int} (tgt : Nat) (hdg : decode cc pc = .ok (.ifCond .ge off, 3)) (ht : (pc : Int) + off = (tgt : Int)) (kt : 0 ≤ x → V cl nL R Z tgt lv st M k n) (kf : ¬ 0 ≤ x → V cl nL R Z (pc + 3) lv st M k n) : V cl nL R Z pc lv (.int x :: st) M k n := fun H locs ls hl hm hS => lv_if_ge C.1 C.2.1 hdg ht (fun q => kt q H locs ls hl hm hS) (fun q => kf q H locs ls hl hm hS)
theorem v_if_gt (C : Cx T cl tys own cc nL ret Z) {x : Int32} {off : Int} (tgt : Nat) (hdg : decode cc pc = .ok (.ifCond .gt off, 3)) (ht : (pc : Int) + off = (tgt : Int)) (kt : 0 < x → V cl nL R Z tgt lv st M k n) (kf : ¬ 0 < x → V cl nL R Z (pc + 3) lv st M k n) : V cl nL R Z pc lv (.int x :: st) M k n := fun H locs ls hl hm hS => lv_if_gt C.1 C.2.1 hdg ht (fun q => kt q H locs ls hl hm hS) (fun q => kf q H locs ls hl hm hS)
theorem v_if_le (C : Cx T cl tys own cc nL ret Z) {x : Int32} {off : Int} (tgt : Nat) (hdg : decode cc pc = .ok (.ifCond .le off, 3)) (ht : (pc : Int) + off = (tgt : Int)) (kt : x ≤ 0 → V cl nL R Z tgt lv st M k n) (kf : ¬ x ≤ 0 → V cl nL R Z (pc + 3) lv st M k n) : V cl nL R Z pc lv (.int x :: st) M k n := fun H locs ls hl hm hS => lv_if_le C.1 C.2.1 hdg ht (fun q => kt q H locs ls hl hm hS) (fun q => kf q H locs ls hl hm hS)
theorem v_if_ne (C : Cx T cl tys own cc nL ret Z) {x : Int32} {off : Int} (tgt : Nat) (hdg : decode cc pc = .ok (.ifCond .ne off, 3)) (ht : (pc : Int) + off = (tgt : Int)) (kt : ¬ x = 0 → V cl nL R Z tgt lv st M k n) (kf : x = 0 → V cl nL R Z (pc + 3) lv st M k n) : V cl nL R Z pc lv (.int x :: st) M k n := fun H locs ls hl hm hS => lv_if_ne C.1 C.2.1 hdg ht (fun q => kt q H locs ls hl hm hS) (fun q => kf q H locs ls hl hm hS)
theorem v_icmp_eq (C : Cx T cl tys own cc nL ret Z) {x y : Int32} {off : Int} (tgt : Nat) (hdg : decode cc pc = .ok (.if_icmp .eq off, 3)) (ht : (pc : Int) + off = (tgt : Int)) (kt : x = y → V cl nL R Z tgt lv st M k n) (kf : ¬ x = y → V cl nL R Z (pc + 3) lv st M k n) : V cl nL R Z pc lv (.int y :: .int x :: st) M k n := fun H locs ls hl hm hS => lv_icmp_eq C.1 C.2.1 hdg ht (fun q => kt q H locs ls hl hm hS) (fun q => kf q H locs ls hl hm hS)
theorem v_icmp_lt (C : Cx T cl tys own cc nL ret Z) {x y : Int32} {off : Int} (tgt : Nat) (hdg : decode cc pc = .ok (.if_icmp .lt off, 3)) (ht : (pc : Int) + off = (tgt : Int)) (kt : x < y → V cl nL R Z tgt lv st M k n) (kf : ¬ x < y → V cl nL R Z (pc + 3) lv st M k n) : V cl nL R Z pc lv (.int y :: .int x :: st) M k n := fun H locs ls hl hm hS => lv_icmp_lt C.1 C.2.1 hdg ht (fun q => kt q H locs ls hl hm hS) (fun q => kf q H locs ls hl hm hS)
theorem v_icmp_ge (C : Cx T cl tys own cc nL ret Z) {x y : Int32} {off : Int} (tgt : Nat) (hdg : decode cc pc = .ok (.if_icmp .ge off, 3)) (ht : (pc : Int) + off = (tgt : Int)) (kt : y ≤ x → V cl nL R Z tgt lv st M k n) (kf : ¬ y ≤ x → V cl nL R Z (pc + 3) lv st M k n) : V cl nL R Z pc lv (.int y :: .int x :: st) M k n := fun H locs ls hl hm hS => lv_icmp_ge C.1 C.2.1 hdg ht (fun q => kt q H locs ls hl hm hS) (fun q => kf q H locs ls hl hm hS)
theorem v_icmp_gt (C : Cx T cl tys own cc nL ret Z) {x y : Int32} {off : Int} (tgt : Nat) (hdg : decode cc pc = .ok (.if_icmp .gt off, 3)) (ht : (pc : Int) + off = (tgt : Int)) (kt : y < x → V cl nL R Z tgt lv st M k n) (kf : ¬ y < x → V cl nL R Z (pc + 3) lv st M k n) : V cl nL R Z pc lv (.int y :: .int x :: st) M k n := fun H locs ls hl hm hS => lv_icmp_gt C.1 C.2.1 hdg ht (fun q => kt q H locs ls hl hm hS) (fun q => kf q H locs ls hl hm hS)
theorem v_icmp_le (C : Cx T cl tys own cc nL ret Z) {x y : Int32} {off : Int} (tgt : Nat) (hdg : decode cc pc = .ok (.if_icmp .le off, 3)) (ht : (pc : Int) + off = (tgt : Int)) (kt : x ≤ y → V cl nL R Z tgt lv st M k n) (kf : ¬ x ≤ y → V cl nL R Z (pc + 3) lv st M k n) : V cl nL R Z pc lv (.int y :: .int x :: st) M k n := fun H locs ls hl hm hS => lv_icmp_le C.1 C.2.1 hdg ht (fun q => kt q H locs ls hl hm hS) (fun q => kf q H locs ls hl hm hS)
theorem v_icmp_ne (C : Cx T cl tys own cc nL ret Z) {x y : Int32} {off : Int} (tgt : Nat) (hdg : decode cc pc = .ok (.if_icmp .ne off, 3)) (ht : (pc : Int) + off = (tgt : Int)) (kt : ¬ x = y → V cl nL R Z tgt lv st M k n) (kf : x = y → V cl nL R Z (pc + 3) lv st M k n) : V cl nL R Z pc lv (.int y :: .int x :: st) M k n := fun H locs ls hl hm hS => lv_icmp_ne C.1 C.2.1 hdg ht (fun q => kt q H locs ls hl hm hS) (fun q => kf q H locs ls hl hm hS)
theorem v_tableOut (C : Cx T cl tys own cc nL ret Z) {dflt lo hi : Int} {offs : Array Int} {len : Nat} {x : Int32} (tgt : Nat) (hdg : decode cc pc = .ok (.tableswitch dflt lo hi offs, len)) (h : x.toInt < lo ∨ hi < x.toInt) (ht : (pc : Int) + dflt = (tgt : Int)) (kk : V cl nL R Z tgt lv st M k n) : V cl nL R Z pc lv (.int x :: st) M k n := fun H locs ls hl hm hS => lv_tableOut C.1 C.2.1 hdg h ht (kk H locs ls hl hm hS)
theorem v_tableIn (C : Cx T cl tys own cc nL ret Z) {dflt lo hi : Int} {offs : Array Int} {len : Nat} {x : Int32} {off : Int} (tgt : Nat) (hdg : decode cc pc = .ok (.tableswitch dflt lo hi offs, len)) (h1 : ¬ x.toInt < lo) (h2 : ¬ hi < x.toInt) (ho : offs[(x.toInt - lo).toNat]? = some off) (ht : (pc : Int) + off = (tgt : Int)) (kk : V cl nL R Z tgt lv st M k n) : V cl nL R Z pc lv (.int x :: st) M k n := fun H locs ls hl hm hS => lv_tableIn C.1 C.2.1 hdg h1 h2 ho ht (kk H locs ls hl hm hS)
theorem v_lookup (C : Cx T cl tys own cc nL ret Z) {dflt : Int} {ps : Array (Int × Int)} {len : Nat} {x : Int32} {off : Int} (tgt : Nat) (hdg : decode cc pc = .ok (.lookupswitch dflt ps, len)) (hp : (ps.toList.zip (ps.toList.drop 1)).all (fun (a, next) => a.1 < next.1) = true) (ho : Op.lookupswitch.offset ps.toList dflt x.toInt = off) (ht : (pc : Int) + off = (tgt : Int)) (kk : V cl nL R Z tgt lv st M k n) : V cl nL R Z pc lv (.int x :: st) M k n := fun H locs ls hl hm hS => lv_lookup C.1 C.2.1 hdg hp ho ht (kk H locs ls hl hm hS)
theorem v_ldc (C : Cx T cl tys own cc nL ret Z) {i : Nat} {v : Int32} (hdg : decode cc pc = .ok (.ldc i, 2)) (hw : Cond.constant own i v ∈ T) (kk : V cl nL R Z (pc + 2) lv (.int v :: st) M k n) : V cl nL R Z pc lv st M k n := fun H locs ls hl hm hS => lv_ldc C.1 C.2.1 C.2.2.2.1 (C.2.2.2.2.2.2.2.2.2 _ hw Z.args) hdg (kk H locs ls hl hm hS)
theorem v_ldcw (C : Cx T cl tys own cc nL ret Z) {i : Nat} {v : Int32} (hdg : decode cc pc = .ok (.ldc_w i, 3)) (hw : Cond.constant own i v ∈ T) (kk : V cl nL R Z (pc + 3) lv (.int v :: st) M k n) : V cl nL R Z pc lv st M k n := fun H locs ls hl hm hS => lv_ldcw C.1 C.2.1 C.2.2.2.1 (C.2.2.2.2.2.2.2.2.2 _ hw Z.args) hdg (kk H locs ls hl hm hS)
theorem v_ldc2 (C : Cx T cl tys own cc nL ret Z) {i : Nat} {v : Int64} (hdg : decode cc pc = .ok (.ldc2_w i, 3)) (hw : Cond.constantLong own i v ∈ T) (kk : V cl nL R Z (pc + 3) lv (.long v :: st) M k n) : V cl nL R Z pc lv st M k n := fun H locs ls hl hm hS => lv_ldc2 C.1 C.2.1 C.2.2.2.1 (C.2.2.2.2.2.2.2.2.2 _ hw Z.args) hdg (kk H locs ls hl hm hS)
theorem v_get (C : Cx T cl tys own cc nL ret Z) {ref Cn : String} {Tf : u_T} {N ci index a : Nat} (hin : ∀ w ∈ u_ws Cn Tf N, w ∈ T) {fs : List Value} (he : M a = some (ob ci fs)) (hc : cl[ci]? = some (Cn, Tf, N)) (j : Nat) (hj : j < N) (hlink : Cond.fieldLink own index ref (Tf j).2.1 (Tf j).2.2.1 ∈ T) (hsame : (Tf j).1 = ref) {v : Value} (hv : fs[j]? = some v) (hdg : decode cc pc = .ok (.getfield index, 3)) (kk : V cl nL R Z (pc + 3) lv (v :: st) M k n) : V cl nL R Z pc lv (.ref a :: st) M k n := fun H locs ls hl hm hS =>
  va_get C.1 C.2.1 (fun w h => C.2.2.2.2.2.2.2.2.2 w h Z.args) hin C.2.2.2.1 C.2.2.2.2.2.2.2.2.1 (hm.one he) 0 rfl hc j hj (C.2.2.2.2.2.2.2.2.2 _ hlink Z.args) (fun _ h => by rw [← hsame]; exact h) hv hdg (kk H locs ls hl hm hS)
theorem v_put (C : Cx T cl tys own cc nL ret Z) {ref Cn : String} {Tf : u_T} {N ci index a : Nat} (hin : ∀ w ∈ u_ws Cn Tf N, w ∈ T) (ty0 : Nat → FieldType) (hty : ∀ j, j < N → parseFieldDescriptor (Tf j).2.2.1 = some (ty0 j)) (hnm : ∀ a, a < N → ∀ b, b < N → a ≠ b → (Tf a).2.1 ≠ (Tf b).2.1) {fs fs' : List Value} (he : M a = some (ob ci fs)) (hc : cl[ci]? = some (Cn, Tf, N)) (j : Nat) (hj : j < N) (hlink : Cond.fieldLink own index ref (Tf j).2.1 (Tf j).2.2.1 ∈ T) (hsame : (Tf j).1 = ref) (hfin : (Tf j).2.2.2 = false) {v : Value} (hn : narrow (ty0 j) v = v) (hfit : fits (ty0 j) v = true) (hl : j < fs.length) (hset : fs.set j v = fs') (hdg : decode cc pc = .ok (.putfield index, 3)) (kk : V cl nL R Z (pc + 3) lv st (mset M a (ob ci fs')) k n) : V cl nL R Z pc lv (v :: .ref a :: st) M k n := by
  subst hset
  intro H locs ls hl0 hm hS0
  have hexec := C.1
  have hb := C.2.1
  have hown := C.2.2.2.1
  have hts : ∀ w ∈ T, w.before Z.args Z.s = true := fun w h => C.2.2.2.2.2.2.2.2.2 w h Z.args
  have hK := C.2.2.2.2.2.2.2.2.1
  have hlink := hts _ hlink
  have hsame : ∀ x, Z.s.fieldFound? (Tf j).1 (Tf j).2.1 (Tf j).2.2.1 = some x → Z.s.fieldFound? ref (Tf j).2.1 (Tf j).2.2.1 = some x := fun _ h => by rw [← hsame]; exact h
  have hap := va_apart (own := own) hts hin ty0 hty hnm hK hc
  obtain ⟨r, h1, cell, q1, q2, q3, q4⟩ := (hm a _ he).2
  have hr : r = (Cn, Tf, N) := Option.some.inj (h1.symm.trans hc)
  subst hr
  obtain ⟨hS, hfc, kC, hkC, hkind⟩ := hK.1 ci _ hc
  obtain ⟨cf, kf, fi, f, hi, hsl⟩ := hS j hj
  have hlay := hts _ (hin _ (u_in_lay hj))
  unfold u_lay at hlay
  rw [if_neg (by rw [hfin]; decide)] at hlay
  have hst := (u_facts hfc hkC (u_lays hts hin hj) hi).1
  have h6 := u_store hfc hkC hkind hlay hi (hty j hj) hn hfit
  refine W.putK hexec hb (f := f) ⟨hown, hlink, ⟨_, _, _, hsame _ hi⟩, hst⟩ (by rw [q2]; exact h6) q1 q3 (by rw [hsl]; exact k2_hasslot (q4 j hj)) rfl rfl hdg fun H' e1 e2 e3 => ?_
  rw [hsl] at e1 ⊢
  exact kk H' _ ls hl0 (hm.set (hm a _ he).1 ⟨_, hc, t_OB.to (V := updV (vp_V fs) j v) ⟨_, e1, q2, q3, t_set q4 hap hj v⟩ (fun i _ => vp_updV_set hl v i)⟩ e3) (hS0.put e2 e3 (hm a _ he).1)
theorem v_getN (C : Cx T cl tys own cc nL ret Z) {ref Cn host : String} {Tf : u_T} {N ci index a : Nat} (hin : ∀ w ∈ u_ws Cn Tf N, w ∈ T) {fs : List Value} (he : M a = some (ob ci fs)) (hc : cl[ci]? = some (Cn, Tf, N)) (j : Nat) (hj : j < N) (hlink : Cond.fieldLinkNest own index ref (Tf j).2.1 (Tf j).2.2.1 host ∈ T) (hsame : (Tf j).1 = ref) {v : Value} (hv : fs[j]? = some v) (hdg : decode cc pc = .ok (.getfield index, 3)) (kk : V cl nL R Z (pc + 3) lv (v :: st) M k n) : V cl nL R Z pc lv (.ref a :: st) M k n := fun H locs ls hl hm hS =>
  va_getN C.1 C.2.1 (fun w h => C.2.2.2.2.2.2.2.2.2 w h Z.args) hin C.2.2.2.1 C.2.2.2.2.2.2.2.2.1 (hm.one he) 0 rfl hc j hj (C.2.2.2.2.2.2.2.2.2 _ hlink Z.args) (fun _ h => by rw [← hsame]; exact h) hv hdg (kk H locs ls hl hm hS)
theorem v_putN (C : Cx T cl tys own cc nL ret Z) {ref Cn host : String} {Tf : u_T} {N ci index a : Nat} (hin : ∀ w ∈ u_ws Cn Tf N, w ∈ T) (ty0 : Nat → FieldType) (hty : ∀ j, j < N → parseFieldDescriptor (Tf j).2.2.1 = some (ty0 j)) (hnm : ∀ a, a < N → ∀ b, b < N → a ≠ b → (Tf a).2.1 ≠ (Tf b).2.1) {fs fs' : List Value} (he : M a = some (ob ci fs)) (hc : cl[ci]? = some (Cn, Tf, N)) (j : Nat) (hj : j < N) (hlink : Cond.fieldLinkNest own index ref (Tf j).2.1 (Tf j).2.2.1 host ∈ T) (hsame : (Tf j).1 = ref) (hfin : (Tf j).2.2.2 = false) {v : Value} (hn : narrow (ty0 j) v = v) (hfit : fits (ty0 j) v = true) (hl : j < fs.length) (hset : fs.set j v = fs') (hdg : decode cc pc = .ok (.putfield index, 3)) (kk : V cl nL R Z (pc + 3) lv st (mset M a (ob ci fs')) k n) : V cl nL R Z pc lv (v :: .ref a :: st) M k n := by
  subst hset
  intro H locs ls hl0 hm hS0
  have hexec := C.1
  have hb := C.2.1
  have hown := C.2.2.2.1
  have hts : ∀ w ∈ T, w.before Z.args Z.s = true := fun w h => C.2.2.2.2.2.2.2.2.2 w h Z.args
  have hK := C.2.2.2.2.2.2.2.2.1
  have hlink := hts _ hlink
  have hsame : ∀ x, Z.s.fieldFound? (Tf j).1 (Tf j).2.1 (Tf j).2.2.1 = some x → Z.s.fieldFound? ref (Tf j).2.1 (Tf j).2.2.1 = some x := fun _ h => by rw [← hsame]; exact h
  have hap := va_apart (own := own) hts hin ty0 hty hnm hK hc
  obtain ⟨r, h1, cell, q1, q2, q3, q4⟩ := (hm a _ he).2
  have hr : r = (Cn, Tf, N) := Option.some.inj (h1.symm.trans hc)
  subst hr
  obtain ⟨hS, hfc, kC, hkC, hkind⟩ := hK.1 ci _ hc
  obtain ⟨cf, kf, fi, f, hi, hsl⟩ := hS j hj
  have hlay := hts _ (hin _ (u_in_lay hj))
  unfold u_lay at hlay
  rw [if_neg (by rw [hfin]; decide)] at hlay
  have hst := (u_facts hfc hkC (u_lays hts hin hj) hi).1
  have h6 := u_store hfc hkC hkind hlay hi (hty j hj) hn hfit
  refine va_WputK hexec hb (f := f) hown hlink (hsame _ hi) hst (by rw [q2]; exact h6) q1 q3 (by rw [hsl]; exact k2_hasslot (q4 j hj)) rfl rfl hdg fun H' e1 e2 e3 => ?_
  rw [hsl] at e1 ⊢
  exact kk H' _ ls hl0 (hm.set (hm a _ he).1 ⟨_, hc, t_OB.to (V := updV (vp_V fs) j v) ⟨_, e1, q2, q3, t_set q4 hap hj v⟩ (fun i _ => vp_updV_set hl v i)⟩ e3) (hS0.put e2 e3 (hm a _ he).1)
theorem v_putF (C : Cx T cl tys own cc nL ret Z) {ref Cn : String} {Tf : u_T} {N ci index a : Nat} (hin : ∀ w ∈ u_ws Cn Tf N, w ∈ T) (ty0 : Nat → FieldType) (hty : ∀ j, j < N → parseFieldDescriptor (Tf j).2.2.1 = some (ty0 j)) (hnm : ∀ a, a < N → ∀ b, b < N → a ≠ b → (Tf a).2.1 ≠ (Tf b).2.1) {fs fs' : List Value} (he : M a = some (ob ci fs)) (hc : cl[ci]? = some (Cn, Tf, N)) (j : Nat) (hj : j < N) (hlink : Cond.fieldLink own index ref (Tf j).2.1 (Tf j).2.2.1 ∈ T) (hsame : (Tf j).1 = ref) (hfin : (Tf j).2.2.2 = true) (hin2 : Z.meth.name = "<init>") (hdecl : (Tf j).1 = own) {v : Value} (hn : narrow (ty0 j) v = v) (hfit : fits (ty0 j) v = true) (hl : j < fs.length) (hset : fs.set j v = fs') (hdg : decode cc pc = .ok (.putfield index, 3)) (kk : V cl nL R Z (pc + 3) lv st (mset M a (ob ci fs')) k n) : V cl nL R Z pc lv (v :: .ref a :: st) M k n := by
  subst hset
  intro H locs ls hl0 hm hS0
  have hexec := C.1
  have hb := C.2.1
  have hown := C.2.2.2.1
  have hts : ∀ w ∈ T, w.before Z.args Z.s = true := fun w h => C.2.2.2.2.2.2.2.2.2 w h Z.args
  have hK := C.2.2.2.2.2.2.2.2.1
  have hlink := hts _ hlink
  have hsame : ∀ x, Z.s.fieldFound? (Tf j).1 (Tf j).2.1 (Tf j).2.2.1 = some x → Z.s.fieldFound? ref (Tf j).2.1 (Tf j).2.2.1 = some x := fun _ h => by rw [← hsame]; exact h
  have hap := va_apart (own := own) hts hin ty0 hty hnm hK hc
  obtain ⟨r, h1, cell, q1, q2, q3, q4⟩ := (hm a _ he).2
  have hr : r = (Cn, Tf, N) := Option.some.inj (h1.symm.trans hc)
  subst hr
  obtain ⟨hS, hfc, kC, hkC, hkind⟩ := hK.1 ci _ hc
  obtain ⟨cf, kf, fi, f, hi, hsl⟩ := hS j hj
  have hlay := hts _ (hin _ (u_in_lay hj))
  unfold u_lay at hlay
  rw [if_pos hfin] at hlay
  have hst := (u_facts hfc hkC (u_lays hts hin hj) hi).1
  have hcf : Z.m.cls = cf := by
    obtain ⟨_, _, c', _, _, _, -, -, hf', -, -, -, hown2, -⟩ := Cond.laysFinal_spec hlay
    have e1 : c' = cf := by have := hi.symm.trans hf'; simp at this; exact this.1.symm
    rw [hdecl] at hown2
    rw [← e1]; exact Option.some.inj (hown.symm.trans hown2)
  have h6 := u_fits hfc hkC hkind (Or.inr hlay) hi (hty j hj) hn hfit
  refine W.putFinK hexec hb hown hlink (hsame _ hi) hst hcf hin2 (by rw [q2]; exact h6) q1 q3 (by rw [hsl]; exact k2_hasslot (q4 j hj)) rfl rfl hdg fun H' e1 e2 e3 => ?_
  rw [hsl] at e1 ⊢
  exact kk H' _ ls hl0 (hm.set (hm a _ he).1 ⟨_, hc, t_OB.to (V := updV (vp_V fs) j v) ⟨_, e1, q2, q3, t_set q4 hap hj v⟩ (fun i _ => vp_updV_set hl v i)⟩ e3) (hS0.put e2 e3 (hm a _ he).1)
theorem v_iald (C : Cx T cl tys own cc nL ret Z) {a : Nat} (t0 : Nat) {cA : ClassId} {N : Nat} {f : Nat → Int32} (he : M a = some (aI cA N f)) (ht : tys[t0]? = some (cA, .int)) {i : Int32} (hin : vp_in i N) (hdg : decode cc pc = .ok (.iaload, 1)) (kk : V cl nL R Z (pc + 1) lv (.int (f i.toNatClampNeg) :: st) M k n) : V cl nL R Z pc lv (.int i :: .ref a :: st) M k n := fun H locs ls hl hm hS => va_iald C.1 C.2.1 C.2.2.2.2.2.2.2.2.1 (hm.one he) 0 t0 rfl ht hin hdg (kk H locs ls hl hm hS)
theorem v_lald (C : Cx T cl tys own cc nL ret Z) {a : Nat} (t0 : Nat) {cA : ClassId} {N : Nat} {f : Nat → Int64} (he : M a = some (aL cA N f)) (ht : tys[t0]? = some (cA, .long)) {i : Int32} (hin : vp_in i N) (hdg : decode cc pc = .ok (.laload, 1)) (kk : V cl nL R Z (pc + 1) lv (.long (f i.toNatClampNeg) :: st) M k n) : V cl nL R Z pc lv (.int i :: .ref a :: st) M k n := fun H locs ls hl hm hS => va_lald C.1 C.2.1 C.2.2.2.2.2.2.2.2.1 (hm.one he) 0 t0 rfl ht hin hdg (kk H locs ls hl hm hS)
theorem v_aldq (C : Cx T cl tys own cc nL ret Z) {a : Nat} (t0 : Nat) {cA : ClassId} {Cn : String} {N : Nat} {f : Nat → Option Nat} (he : M a = some (aQ cA N f)) (ht : tys[t0]? = some (cA, .object Cn)) {i : Int32} (hin : vp_in i N) {v : Value} (hv : va_rf (f i.toNatClampNeg) = v) (hdg : decode cc pc = .ok (.aaload, 1)) (kk : V cl nL R Z (pc + 1) lv (v :: st) M k n) : V cl nL R Z pc lv (.int i :: .ref a :: st) M k n := fun H locs ls hl hm hS => va_aldq C.1 C.2.1 C.2.2.2.2.2.2.2.2.1 (hm.one he) 0 t0 rfl ht hin hdg (by rw [hv]; exact kk H locs ls hl hm hS)
theorem v_alen (C : Cx T cl tys own cc nL ret Z) {a : Nat} (t0 : Nat) {cA : ClassId} {x : vp_A} (he : M a = some (.inl (cA, x))) {ty : FieldType} (ht : tys[t0]? = some (cA, ty)) {v : Int32} (hv : Int32.ofNat x.1 = v) (hdg : decode cc pc = .ok (.arraylength, 1)) (kk : V cl nL R Z (pc + 1) lv (.int v :: st) M k n) : V cl nL R Z pc lv (.ref a :: st) M k n := fun H locs ls hl hm hS => va_alen C.1 C.2.1 C.2.2.2.2.2.2.2.2.1 (hm.one he) 0 t0 rfl ht hv hdg (kk H locs ls hl hm hS)
theorem v_iast (C : Cx T cl tys own cc nL ret Z) {a : Nat} (t0 : Nat) {cA : ClassId} {N : Nat} {f : Nat → Int32} (he : M a = some (aI cA N f)) (ht : tys[t0]? = some (cA, .int)) {i x : Int32} (hin : vp_in i N) (hdg : decode cc pc = .ok (.iastore, 1)) (kk : V cl nL R Z (pc + 1) lv st (mset M a (aI cA N (upd f i.toNatClampNeg x))) k n) : V cl nL R Z pc lv (.int x :: .int i :: .ref a :: st) M k n := by
  intro H locs ls hl hm hS
  refine W.iast C.1 C.2.1 (hm a _ he).2 ((C.2.2.2.2.2.2.2.2.1.2 t0 _ ht).1 N (fun j => .int (f j))) (fun q => by cases q) (by show ¬ (i < 0 ∨ (arrV _ _ _).slots.size ≤ _); rw [arrV_size]; exact hin) rfl rfl hdg fun H1 e1 z oq => ?_
  refine kk H1 _ ls hl (hm.set (hm a _ he).1 ?_ oq) (hS.put z oq (hm a _ he).1)
  show H1[a]? = some (vp_cell _ _)
  rw [e1, vp_cell_i, vp_cell_i, arrV_store]
  congr 2
  funext q
  by_cases hq : q = i.toNatClampNeg
  · subst hq
    simp [updV, upd]
  · simp [updV, upd, hq]
theorem v_last (C : Cx T cl tys own cc nL ret Z) {a : Nat} (t0 : Nat) {cA : ClassId} {N : Nat} {f : Nat → Int64} (he : M a = some (aL cA N f)) (ht : tys[t0]? = some (cA, .long)) {i : Int32} {x : Int64} (hin : vp_in i N) (hdg : decode cc pc = .ok (.lastore, 1)) (kk : V cl nL R Z (pc + 1) lv st (mset M a (aL cA N (vp_updL f i.toNatClampNeg x))) k n) : V cl nL R Z pc lv (.long x :: .int i :: .ref a :: st) M k n := by
  intro H locs ls hl hm hS
  refine W.last C.1 C.2.1 (hm a _ he).2 ((C.2.2.2.2.2.2.2.2.1.2 t0 _ ht).1 N (fun j => .long (f j))) (fun q => by cases q) (by show ¬ (i < 0 ∨ (arrV _ _ _).slots.size ≤ _); rw [arrV_size]; exact hin) rfl rfl hdg fun H1 e1 z oq => ?_
  refine kk H1 _ ls hl (hm.set (hm a _ he).1 ?_ oq) (hS.put z oq (hm a _ he).1)
  show H1[a]? = some (vp_cell _ _)
  rw [e1, vp_cell_l, vp_cell_l, arrV_store]
  congr 2
  funext q
  by_cases hq : q = i.toNatClampNeg
  · subst hq
    simp [updV, vp_updL]
  · simp [updV, vp_updL, hq]
theorem v_astq (C : Cx T cl tys own cc nL ret Z) {a : Nat} (t0 ci : Nat) {cA : ClassId} {r : vw_C} {N v : Nat} {vs : List Value} {f : Nat → Option Nat} (he : M a = some (aQ cA N f)) (ht : tys[t0]? = some (cA, .object r.1)) (hv : M v = some (ob ci vs)) (hc : cl[ci]? = some r) {i : Int32} (hin : vp_in i N) (hdg : decode cc pc = .ok (.aastore, 1)) (kk : V cl nL R Z (pc + 1) lv st (mset M a (aQ cA N (va_up f i.toNatClampNeg (some v)))) k n) : V cl nL R Z pc lv (.ref v :: .int i :: .ref a :: st) M k n := by
  intro H locs ls hl hm hS
  have hK := C.2.2.2.2.2.2.2.2.1
  have hlt : i.toNatClampNeg < N := Nat.not_le.mp fun q => hin (Or.inr q)
  have h0 : ¬ i < 0 := fun q => hin (Or.inl q)
  obtain ⟨r', hr', cellV, g1, g2, g3, -⟩ := (hm v _ hv).2
  have hcls := (hK.1 ci r hc).2
  obtain ⟨kA, comp, k1, k2, k3, -⟩ := (hK.2 t0 _ ht).2
  have hcomp : comp = Z.D.1 ci := Option.some.inj (k3.symm.trans hcls.1)
  subst hcomp
  obtain ⟨kC, hkC, -⟩ := hcls.2
  refine W.aast C.1 C.2.1 (hm a _ he).2 (fun q h => by cases h) (fun h => by cases h) k1 k2 rfl hkC ⟨h0, by show _ < (arrV _ _ _).slots.size; rw [arrV_size]; exact hlt⟩ g1 (fun q h => by rw [g3] at h; cases h) (by rw [g2]; exact hkC) (by rw [g2]; exact va_assign hcls) rfl rfl hdg fun H1 e1 z oq => ?_
  refine kk H1 _ ls hl (hm.set (hm a _ he).1 ?_ oq) (hS.put z oq (hm a _ he).1)
  show H1[a]? = some (vp_cell _ _)
  rw [e1, vp_cell_q, vp_cell_q, arrV_store]
  congr 2
  funext q
  by_cases hq : q = i.toNatClampNeg
  · subst hq
    simp [updV, va_up, va_rf]
  · simp [updV, va_up, hq]
theorem v_new (C : Cx T cl tys own cc nL ret Z) {Cn : String} {Tf : u_T} {N ci index : Nat} (hin : ∀ w ∈ u_ws Cn Tf N, w ∈ T) (ty : Nat → FieldType) (hty : ∀ j, j < N → parseFieldDescriptor (Tf j).2.2.1 = some (ty j)) (hcl : Cond.classLink own index Cn ∈ T) (hinst : Cond.instantiable Cn N ∈ T) (hini : Cond.initialized Cn ∈ T) (hc : cl[ci]? = some (Cn, Tf, N)) {fs : List Value} (hfs : ∀ j, j < N → defaultValue (ty j) = vp_V fs j) (hcells : k + 1 ≤ R.cells) (hslots : n + N ≤ R.slots) (hdg : decode cc pc = .ok (.new index, 3)) (kk : ∀ q : Nat, M q = none → (∀ (b : Nat) (x : va_E), M b = some x → b < q) → V cl nL R Z (pc + 3) lv (.ref q :: st) (mset M q (ob ci fs)) (k + 1) (n + N)) : V cl nL R Z pc lv st M k n := by
  intro H locs ls hl hm hS
  have hK := C.2.2.2.2.2.2.2.2.1
  have hts : ∀ w ∈ T, w.before Z.args Z.s = true := fun w h => C.2.2.2.2.2.2.2.2.2 w h Z.args
  have hKn := hK.1 ci _ hc
  refine W.newcK C.1 C.2.1 C.2.2.2.1 (hts _ hcl) (hts _ hinst) (hts _ hini) rfl hdg hcells hslots hKn.2.1 rfl fun H1 kC hkC e1 z1 o1 => ?_
  exact kk H.size hm.fresh (fun _ _ hb => hm.lt hb) H1 locs ls hl (hm.push (C.2.2.2.2.2.2.1 _ hS.1) ⟨_, hc, (u_born ty hts hin hKn hkC e1 hty).to hfs⟩ o1) ⟨Nat.le_trans hS.1 (by omega), fun x h1 h2 => (o1 x (Nat.lt_of_lt_of_le h1 hS.1)).trans (hS.2.1 x h1 h2), hS.2.2⟩
theorem v_newa (C : Cx T cl tys own cc nL ret Z) (hw : Cond.arrayClass .int ∈ T) (t0 : Nat) {cA : ClassId} (ht : tys[t0]? = some (cA, .int)) {z : Int32} {N : Nat} (hn : ¬ z < 0) (hN : z.toNatClampNeg = N) (hbytes : N * 4 ≤ 536870912) (hcells : k + 1 ≤ R.cells) (hslots : n + N ≤ R.slots) (hdg : decode cc pc = .ok (.newarray .int, 2)) (kk : ∀ q : Nat, M q = none → (∀ (b : Nat) (x : va_E), M b = some x → b < q) → V cl nL R Z (pc + 2) lv (.ref q :: st) (mset M q (aI cA N (fun _ => 0))) (k + 1) (n + N)) : V cl nL R Z pc lv (.int z :: st) M k n := by
  intro H locs ls hl hm hS
  have hK := C.2.2.2.2.2.2.2.2.1
  have hts : ∀ w ∈ T, w.before Z.args Z.s = true := fun w h => C.2.2.2.2.2.2.2.2.2 w h Z.args
  refine va_newaK C.1 C.2.1 (atype := .int) (hts _ hw) rfl hdg rfl hn hN hbytes hcells hslots rfl fun H1 cB e1 z1 o1 hAr hNm => ?_
  have hcc : cB = cA := Option.some.inj (hNm.symm.trans (hK.2 t0 _ ht).2)
  subst hcc
  refine kk H.size hm.fresh (fun _ _ hb => hm.lt hb) H1 locs ls hl (hm.push (C.2.2.2.2.2.2.1 _ hS.1) ?_ o1) ⟨Nat.le_trans hS.1 (by omega), fun x h1 h2 => (o1 x (Nat.lt_of_lt_of_le h1 hS.1)).trans (hS.2.1 x h1 h2), hS.2.2⟩
  show H1[H.size]? = some (vp_cell _ _)
  rw [e1, vp_cell_i]
  rfl
theorem v_newl (C : Cx T cl tys own cc nL ret Z) (hw : Cond.arrayClass .long ∈ T) (t0 : Nat) {cA : ClassId} (ht : tys[t0]? = some (cA, .long)) {z : Int32} {N : Nat} (hn : ¬ z < 0) (hN : z.toNatClampNeg = N) (hbytes : N * 8 ≤ 536870912) (hcells : k + 1 ≤ R.cells) (hslots : n + N ≤ R.slots) (hdg : decode cc pc = .ok (.newarray .long, 2)) (kk : ∀ q : Nat, M q = none → (∀ (b : Nat) (x : va_E), M b = some x → b < q) → V cl nL R Z (pc + 2) lv (.ref q :: st) (mset M q (aL cA N (fun _ => 0))) (k + 1) (n + N)) : V cl nL R Z pc lv (.int z :: st) M k n := by
  intro H locs ls hl hm hS
  have hK := C.2.2.2.2.2.2.2.2.1
  have hts : ∀ w ∈ T, w.before Z.args Z.s = true := fun w h => C.2.2.2.2.2.2.2.2.2 w h Z.args
  refine va_newaK C.1 C.2.1 (atype := .long) (hts _ hw) rfl hdg rfl hn hN hbytes hcells hslots rfl fun H1 cB e1 z1 o1 hAr hNm => ?_
  have hcc : cB = cA := Option.some.inj (hNm.symm.trans (hK.2 t0 _ ht).2)
  subst hcc
  refine kk H.size hm.fresh (fun _ _ hb => hm.lt hb) H1 locs ls hl (hm.push (C.2.2.2.2.2.2.1 _ hS.1) ?_ o1) ⟨Nat.le_trans hS.1 (by omega), fun x h1 h2 => (o1 x (Nat.lt_of_lt_of_le h1 hS.1)).trans (hS.2.1 x h1 h2), hS.2.2⟩
  show H1[H.size]? = some (vp_cell _ _)
  rw [e1, vp_cell_l]
  rfl
theorem v_newq (C : Cx T cl tys own cc nL ret Z) {Cn : String} {index : Nat} (hcl : Cond.classLink own index Cn ∈ T) (hover : Cond.arrayOver (.object Cn) ∈ T) (t0 : Nat) {cA : ClassId} (ht : tys[t0]? = some (cA, .object Cn)) {z : Int32} {N : Nat} (hn : ¬ z < 0) (hN : z.toNatClampNeg = N) (hbytes : N * 4 ≤ 536870912) (hcells : k + 1 ≤ R.cells) (hslots : n + N ≤ R.slots) (hdg : decode cc pc = .ok (.anewarray index, 3)) (kk : ∀ q : Nat, M q = none → (∀ (b : Nat) (x : va_E), M b = some x → b < q) → V cl nL R Z (pc + 3) lv (.ref q :: st) (mset M q (aQ cA N (fun _ => none))) (k + 1) (n + N)) : V cl nL R Z pc lv (.int z :: st) M k n := by
  intro H locs ls hl hm hS
  have hK := C.2.2.2.2.2.2.2.2.1
  have hts : ∀ w ∈ T, w.before Z.args Z.s = true := fun w h => C.2.2.2.2.2.2.2.2.2 w h Z.args
  subst hN
  refine W.anew C.1 C.2.1 C.2.2.2.1 (hts _ hcl) (hts _ hover) rfl hdg rfl hn hbytes hcells hslots fun cB kA comp f1 f2 f3 f4 => ?_
  obtain ⟨kA', comp', k1, k2, k3, k4⟩ := (hK.2 t0 _ ht).2
  have hcc : cB = cA := Option.some.inj (f1.symm.trans k4)
  subst hcc
  generalize hH1 : H.push ({ cls := cB, slots := Array.replicate z.toNatClampNeg .null, vm := .none } : Cell) = H1
  have z1 : H1.size = H.size + 1 := by rw [← hH1, Array.size_push]
  have e1 : H1[H.size]? = some (arrV cB z.toNatClampNeg (fun _ => .null)) := by rw [← hH1, Array.getElem?_push_size, ← arrV_new]
  have o1 : ∀ q : Nat, q < H.size → H1[q]? = H[q]? := fun q hq => by rw [← hH1, Array.getElem?_push, if_neg (Nat.ne_of_lt hq)]
  refine kk H.size hm.fresh (fun _ _ hb => hm.lt hb) H1 locs ls hl (hm.push (C.2.2.2.2.2.2.1 _ hS.1) ?_ o1) ⟨Nat.le_trans hS.1 (by omega), fun x h1 h2 => (o1 x (Nat.lt_of_lt_of_le h1 hS.1)).trans (hS.2.1 x h1 h2), hS.2.2⟩
  show H1[H.size]? = some (vp_cell _ _)
  rw [e1, vp_cell_q]
  rfl
theorem v_objInit (C : Cx T cl tys own cc nL ret Z) {idx a : Nat} (h1 : Cond.methodLink own idx Lib.objectInit ∈ T) (h2 : Cond.instanceMethod Lib.objectInit ∈ T) (h3 : Cond.code Lib.objectInit ⟨#[0xb1]⟩ 1 none ∈ T) (hfr : 1 ≤ R.frames) (hlo : (st.map fun v => v.category).sum + 12 ≤ R.locals) (hdg : decode cc pc = .ok (.invokespecial idx, 3)) (kk : V cl nL R Z (pc + 3) lv st M k n) : V cl nL R Z pc lv (.ref a :: st) M k n := fun H locs ls hl hm hS =>
  W.objInit C.1 C.2.1 C.2.2.2.1 (C.2.2.2.2.2.2.2.2.2 _ h1 Z.args) (C.2.2.2.2.2.2.2.2.2 _ h2 Z.args) (C.2.2.2.2.2.2.2.2.2 _ h3 Z.args) rfl (hl.1.trans C.2.2.1.symm) rfl hdg hfr (by show 2 * 0 + _ + 12 ≤ _; omega) (kk H locs ls hl hm hS)
theorem v_mmax (C : Cx T cl tys own cc nL ret Z) {idx : Nat} (h1 : Cond.methodLink own idx Lib.Math.max.name ∈ T) (h2 : Cond.static Lib.Math.max.name ∈ T) (h3 : Cond.initialized "java/lang/Math" ∈ T) (h4 : Cond.code Lib.Math.max.name Lib.Math.max.code 2 (some .int) ∈ T) (hfr : 1 ≤ R.frames) (hlo : (st.map fun v => v.category).sum + 13 ≤ R.locals) (hk : k ≤ R.cells) (hn : n ≤ R.slots) {x y : Int32} (hdg : decode cc pc = .ok (.invokestatic idx, 3)) (kk : V cl nL R Z (pc + 3) lv (.int (if x < y then y else x) :: st) M k n) : V cl nL R Z pc lv (.int y :: .int x :: st) M k n := fun H locs ls hl hm hS =>
  va_mmax C.1 C.2.1 (C.2.2.1.trans hl.1.symm) C.2.2.2.1 (C.2.2.2.2.2.2.2.2.2 _ h1 Z.args) (C.2.2.2.2.2.2.2.2.2 _ h2 Z.args) (C.2.2.2.2.2.2.2.2.2 _ h3 Z.args) (C.2.2.2.2.2.2.2.2.2 _ h4 Z.args) hfr hlo hk hn hdg (kk H locs ls hl hm hS)
theorem v_mmin (C : Cx T cl tys own cc nL ret Z) {idx : Nat} (h1 : Cond.methodLink own idx Lib.Math.min.name ∈ T) (h2 : Cond.static Lib.Math.min.name ∈ T) (h3 : Cond.initialized "java/lang/Math" ∈ T) (h4 : Cond.code Lib.Math.min.name Lib.Math.min.code 2 (some .int) ∈ T) (hfr : 1 ≤ R.frames) (hlo : (st.map fun v => v.category).sum + 13 ≤ R.locals) (hk : k ≤ R.cells) (hn : n ≤ R.slots) {x y : Int32} (hdg : decode cc pc = .ok (.invokestatic idx, 3)) (kk : V cl nL R Z (pc + 3) lv (.int (if y < x then y else x) :: st) M k n) : V cl nL R Z pc lv (.int y :: .int x :: st) M k n := fun H locs ls hl hm hS =>
  va_mmin C.1 C.2.1 (C.2.2.1.trans hl.1.symm) C.2.2.2.1 (C.2.2.2.2.2.2.2.2.2 _ h1 Z.args) (C.2.2.2.2.2.2.2.2.2 _ h2 Z.args) (C.2.2.2.2.2.2.2.2.2 _ h3 Z.args) (C.2.2.2.2.2.2.2.2.2 _ h4 Z.args) hfr hlo hk hn hdg (kk H locs ls hl hm hS)
theorem v_zald (C : Cx T cl tys own cc nL ret Z) {a : Nat} (t0 : Nat) {cA : ClassId} {N : Nat} {f : Nat → Int32} (he : M a = some (aI cA N f)) (ht : tys[t0]? = some (cA, .boolean)) {i : Int32} (hin : vp_in i N) (hdg : decode cc pc = .ok (.baload, 1)) (kk : V cl nL R Z (pc + 1) lv (.int (f i.toNatClampNeg) :: st) M k n) : V cl nL R Z pc lv (.int i :: .ref a :: st) M k n := fun H locs ls hl hm hS => va_zald C.1 C.2.1 C.2.2.2.2.2.2.2.2.1 (hm.one he) 0 t0 rfl ht hin hdg (kk H locs ls hl hm hS)
theorem v_zast (C : Cx T cl tys own cc nL ret Z) {a : Nat} (t0 : Nat) {cA : ClassId} {N : Nat} {f : Nat → Int32} (he : M a = some (aI cA N f)) (ht : tys[t0]? = some (cA, .boolean)) {i x y : Int32} (hin : vp_in i N) (hx : vp_nar .boolean x = y) (hdg : decode cc pc = .ok (.bastore, 1)) (kk : V cl nL R Z (pc + 1) lv st (mset M a (aI cA N (upd f i.toNatClampNeg y))) k n) : V cl nL R Z pc lv (.int x :: .int i :: .ref a :: st) M k n := by
  subst hx
  intro H locs ls hl hm hS
  refine W.zast C.1 C.2.1 (hm a _ he).2 ((C.2.2.2.2.2.2.2.2.1.2 t0 _ ht).1 N (fun j => .int (f j))) (fun q => by cases q) (by show ¬ (i < 0 ∨ (arrV _ _ _).slots.size ≤ _); rw [arrV_size]; exact hin) rfl rfl hdg fun H1 e1 z oq => ?_
  refine kk H1 _ ls hl (hm.set (hm a _ he).1 ?_ oq) (hS.put z oq (hm a _ he).1)
  show H1[a]? = some (vp_cell _ _)
  rw [e1, vp_cell_i, vp_cell_i, arrV_store]
  congr 2
  funext q
  by_cases hq : q = i.toNatClampNeg
  · subst hq
    simp [updV, upd, vp_nar]
    try rfl
  · simp [updV, upd, hq]
theorem v_newz (C : Cx T cl tys own cc nL ret Z) (hw : Cond.arrayClass .boolean ∈ T) (t0 : Nat) {cA : ClassId} (ht : tys[t0]? = some (cA, .boolean)) {z : Int32} {N : Nat} (hn : ¬ z < 0) (hN : z.toNatClampNeg = N) (hbytes : N * 1 ≤ 536870912) (hcells : k + 1 ≤ R.cells) (hslots : n + N ≤ R.slots) (hdg : decode cc pc = .ok (.newarray .boolean, 2)) (kk : ∀ q : Nat, M q = none → (∀ (b : Nat) (x : va_E), M b = some x → b < q) → V cl nL R Z (pc + 2) lv (.ref q :: st) (mset M q (aI cA N (fun _ => 0))) (k + 1) (n + N)) : V cl nL R Z pc lv (.int z :: st) M k n := by
  intro H locs ls hl hm hS
  have hK := C.2.2.2.2.2.2.2.2.1
  have hts : ∀ w ∈ T, w.before Z.args Z.s = true := fun w h => C.2.2.2.2.2.2.2.2.2 w h Z.args
  refine va_newaK C.1 C.2.1 (atype := .boolean) (hts _ hw) rfl hdg rfl hn hN hbytes hcells hslots rfl fun H1 cB e1 z1 o1 hAr hNm => ?_
  have hcc : cB = cA := Option.some.inj (hNm.symm.trans (hK.2 t0 _ ht).2)
  subst hcc
  refine kk H.size hm.fresh (fun _ _ hb => hm.lt hb) H1 locs ls hl (hm.push (C.2.2.2.2.2.2.1 _ hS.1) ?_ o1) ⟨Nat.le_trans hS.1 (by omega), fun x h1 h2 => (o1 x (Nat.lt_of_lt_of_le h1 hS.1)).trans (hS.2.1 x h1 h2), hS.2.2⟩
  show H1[H.size]? = some (vp_cell _ _)
  rw [e1, vp_cell_i]
  rfl
theorem v_iret {post : Option Value → Mem → Prop} {mc ms : Nat} (hQ : Z.Q = MQ Z.below (mq post Z.D cl Z.A) Z.args Z.s mc ms Z.A) (C : Cx T cl tys own cc nL ret Z) {v : Int32} (hr : ret = some .int) (hdg : decode cc pc = .ok (.ireturn, 1)) (hk : k ≤ mc) (hn : n ≤ ms) (hp : post (some (.int v)) M) : V cl nL R Z pc lv [.int v] M k n := by
  intro H locs ls hl hm hS
  refine W.widen hk hn ?_
  rw [hQ]
  exact W.iret C.1 C.2.1 (C.2.2.2.2.1.trans hr) (fun t ht hW => ⟨⟨_, M, rfl, hp, by rw [ht]; exact hm⟩, hS.F ht⟩) hS.2.2 hdg C.2.2.2.2.2.1
theorem v_zret {post : Option Value → Mem → Prop} {mc ms : Nat} (hQ : Z.Q = MQ Z.below (mq post Z.D cl Z.A) Z.args Z.s mc ms Z.A) (C : Cx T cl tys own cc nL ret Z) {v : Int32} {ty : FieldType} (hr : ret = some ty) (hnn : narrow ty (.int v) = .int v) (hdg : decode cc pc = .ok (.ireturn, 1)) (hk : k ≤ mc) (hn : n ≤ ms) (hp : post (some (.int v)) M) : V cl nL R Z pc lv [.int v] M k n := by
  intro H locs ls hl hm hS
  refine W.widen hk hn ?_
  rw [hQ]
  exact W.zret C.1 C.2.1 (C.2.2.2.2.1.trans hr) hnn (fun t ht hW => ⟨⟨_, M, rfl, hp, by rw [ht]; exact hm⟩, hS.F ht⟩) hS.2.2 hdg C.2.2.2.2.2.1
theorem v_lret {post : Option Value → Mem → Prop} {mc ms : Nat} (hQ : Z.Q = MQ Z.below (mq post Z.D cl Z.A) Z.args Z.s mc ms Z.A) (C : Cx T cl tys own cc nL ret Z) {v : Int64} (hr : ret = some .long) (hdg : decode cc pc = .ok (.lreturn, 1)) (hk : k ≤ mc) (hn : n ≤ ms) (hp : post (some (.long v)) M) : V cl nL R Z pc lv [.long v] M k n := by
  intro H locs ls hl hm hS
  refine W.widen hk hn ?_
  rw [hQ]
  exact W.lret C.1 C.2.1 (C.2.2.2.2.1.trans hr) (fun t ht hW => ⟨⟨_, M, rfl, hp, by rw [ht]; exact hm⟩, hS.F ht⟩) hS.2.2 hdg C.2.2.2.2.2.1
theorem v_vret {post : Option Value → Mem → Prop} {mc ms : Nat} (hQ : Z.Q = MQ Z.below (mq post Z.D cl Z.A) Z.args Z.s mc ms Z.A) (C : Cx T cl tys own cc nL ret Z) (hr : ret = none) (hdg : decode cc pc = .ok (.return_, 1)) (hk : k ≤ mc) (hn : n ≤ ms) (hp : post (none) M) : V cl nL R Z pc lv [] M k n := by
  intro H locs ls hl hm hS
  refine W.widen hk hn ?_
  rw [hQ]
  exact W.vret C.1 C.2.1 (C.2.2.2.2.1.trans hr) (fun t ht hW => ⟨⟨_, M, rfl, hp, by rw [ht]; exact hm⟩, hS.F ht⟩) hS.2.2 hdg C.2.2.2.2.2.1
theorem v_aret {post : Option Value → Mem → Prop} {mc ms : Nat} (hQ : Z.Q = MQ Z.below (mq post Z.D cl Z.A) Z.args Z.s mc ms Z.A) (C : Cx T cl tys own cc nL ret Z) {v : Value} {nm : String} (hr : ret = some (.object nm)) (hv : v = .null ∨ ∃ a, v = .ref a) (hdg : decode cc pc = .ok (.areturn, 1)) (hk : k ≤ mc) (hn : n ≤ ms) (hp : post (some v) M) : V cl nL R Z pc lv [v] M k n := by
  intro H locs ls hl hm hS
  refine W.widen hk hn ?_
  rw [hQ]
  exact W.aret C.1 C.2.1 (C.2.2.2.2.1.trans hr) (Or.inl ⟨_, rfl⟩) hv (fun t ht hW => ⟨⟨_, M, rfl, hp, by rw [ht]; exact hm⟩, hS.F ht⟩) hS.2.2 hdg C.2.2.2.2.2.1
/-- behind a call -/
theorem v_ret {y : MethodName} {bytes : ByteArray} {maxL : Nat} {rt : Option FieldType} {mc ms : Nat} {post : Option Value → Mem → Prop} {rest : List Value} {av : Array Value} (C : Cx T cl tys own cc nL ret Z) (hfr : ∀ (H : Heap) (locs : List Loc) (ls : Array Slot), lv_has ls nL lv → mm_ok Z.D cl Z.A M H → va_S Z.A Z.s.heap H locs → va_Run Z.p Z.l Z.e R Z.s Z.m Z.args Z.below Z.meth Z.c H locs k n mc ms (F0 Z.m pc ls st) rest (mq post Z.D cl (mm_A M H.size) av) (mm_A M H.size))
    (kk : ∀ (rv : Option Value) (M' : Mem), post rv M' → V cl nL R Z (pc + 3) lv (rv.toList ++ rest) M' (k + mc) (n + ms)) : V cl nL R Z pc lv st M k n := by
  intro H locs ls hl hm hS T' hT X
  have hAA : ∀ q, mm_A M H.size q → Z.A q := fun q h => by
    rcases h with ⟨x, hx⟩ | h
    · exact (hm q x hx).1
    · exact C.2.2.2.2.2.2.1 q (Nat.le_trans hS.1 h)
  obtain ⟨v, st₀, t, T1, L, h0, X', hL, e1, e2, ⟨⟨rv, M', hv, hp, hm'⟩, hz, hk⟩, st⟩ := hfr H locs ls hl hm hS T' hT X
  cases hv
  rw [h0] at hz hk
  have hm1 : mm_ok Z.D cl Z.A M' T1.heap := by rw [e1]; exact hm'.weaken hAA
  have hS1 : va_S Z.A Z.s.heap T1.heap (locs ++ L) := ⟨Nat.le_trans hS.1 (by rw [e1]; exact hz), fun q h1 h2 => by rw [e1, hk q (Nat.lt_of_lt_of_le h1 hS.1) (fun z => h2 (hAA q z))]; exact hS.2.1 q h1 h2, fun q hq => by
      rcases List.mem_append.mp hq with h | h
      · exact hS.2.2 q h
      · exact hAA _ (hL q h)⟩
  obtain ⟨t2, a1, b1⟩ := kk v M' hp T1.heap (locs ++ L) ls hl hm1 hS1 T1 rfl X'
  exact ⟨t2, st t2 a1, b1⟩
theorem v_blind {D : va_G} {T : List Cond} {av : List Value} {sz : Nat} : FrameBlind (va_Pc av (fun U => U.heap.size = sz ∧ mm_h D cl M U.heap ∧ (∀ w ∈ T, mov w = true) ∧ Kw T D cl tys U)) := by
  intro a U g mk ⟨h1, h2, h3, h4, h5⟩
  refine ⟨h1, h2, h3, h4, va_K.moved (u := U) (U := U.calling g mk a) (Vm.Alike.refl U.vm) h5.1, ?_⟩
  exact h5.2.moved h4 (s := U) (U := U.calling g mk a) (State.WarmedH.refl U)
theorem v_callV {y : MethodName} {bytes : ByteArray} {maxL : Nat} {rt : Option FieldType} {fr lo mc ms index : Nat} {As rest : List Value} {post : Option Value → Mem → Prop} (C : Cx T cl tys own cc nL ret Z) {b ci : Nat} {fs : List Value} {r : vw_C} (hrv : M b = some (ob ci fs)) (hrc : cl[ci]? = some r) (hrn : r.1 = y.cls) (hinst : Cond.instanceMethod y ∈ T) (hsel : Cond.selects y.cls y y ∈ T) (ct : Ct T Z.D cl tys Z.l y bytes maxL rt fr lo mc ms (.ref b :: As) M post) (hfr : fr + 1 ≤ R.frames) (hlo : 8 + (maxL + 11) + lo ≤ R.locals) (hcd : Cond.code y bytes maxL rt ∈ T) (hini : Cond.initialized y.cls ∈ T) (hy : y.cls ≠ "java/lang/invoke/MethodHandle" ∧ y.cls ≠ "java/lang/invoke/VarHandle" ∧ (parseMethodDescriptor y.desc).map (fun d => d.parameters.length) = some As.length) (hlink : Cond.methodLink own index y ∈ T) (hst : st = As.reverse ++ .ref b :: rest) (hrest : (rest.map fun v => v.category).sum ≤ 8) (hcs : k + mc ≤ R.cells ∧ n + ms ≤ R.slots) (hdg : decode cc pc = .ok (.invokevirtual index, 3))
    (kk : ∀ (rv : Option Value) (M' : Mem), post rv M' → V cl nL R Z (pc + 3) lv (rv.toList ++ rest) M' (k + mc) (n + ms)) : V cl nL R Z pc lv st M k n := by
  subst hst
  refine v_ret (mc := mc) (ms := ms) (post := post) (av := (.ref b :: As).toArray) (y := y) (bytes := bytes) (maxL := maxL) (rt := rt) C (fun H locs ls hl hm hS => ?_) kk
  have tk : ∀ w ∈ T, w.before Z.args Z.s = true := fun w h => C.2.2.2.2.2.2.2.2.2 w h Z.args
  have CB : CallB R Z.s Z.args own index y bytes maxL rt [.code y bytes maxL rt] (rmOf fr lo mc ms) mc ms As.length := ⟨rfl, rfl, hfr, hlo, fun w hw a' U hW => by cases List.mem_singleton.mp hw; exact word_at hW (Or.inl rfl) (tk _ hcd), List.mem_cons_self, tk _ hcd, tk _ hini, ⟨hy.1, hy.2.1⟩, fun sig h => by have h2 := hy.2.2; rw [h] at h2; exact (Option.some.inj h2).symm, tk _ hlink⟩
  have PR : ∀ U : State, U.heap = H → Z.s.WarmedH U.vm → va_Pc (.ref b :: As) (fun U => U.heap.size = H.size ∧ mm_h Z.D cl M U.heap ∧ (∀ w ∈ T, mov w = true) ∧ Kw T Z.D cl tys U) (.ref b :: As).toArray U := fun U hU hW => ⟨rfl, by rw [hU], by rw [hU]; exact hm.h, C.2.2.2.2.2.2.2.1, C.2.2.2.2.2.2.2.2.moved C.2.2.2.2.2.2.2.1 hW⟩
  obtain ⟨r', hr', cellB, g1, g2, g3, -⟩ := (hm b _ hrv).2
  have hfc : Z.s.vm.findClass y.cls = some cellB.cls := by rw [← hrn, g2]; exact (C.2.2.2.2.2.2.2.2.1.1 ci r hrc).2.1
  exact va_runV (Ts := T) (own := own) (C := y.cls) ⟨C.1, C.2.1, C.2.2.1, C.2.2.2.1, tk⟩ (ct H.size) ⟨CB, tk _ hinst, tk _ hsel⟩ ⟨v_blind, ⟨cellB, g1, by rw [g3]; rfl, hfc⟩, PR⟩ rfl rfl hl.1 rfl (lv_room hrest) hdg hcs
theorem v_callS {y : MethodName} {bytes : ByteArray} {maxL : Nat} {rt : Option FieldType} {fr lo mc ms index : Nat} {As rest : List Value} {post : Option Value → Mem → Prop} (C : Cx T cl tys own cc nL ret Z) (hstat : Cond.static y ∈ T) (ct : Ct T Z.D cl tys Z.l y bytes maxL rt fr lo mc ms As M post) (hfr : fr + 1 ≤ R.frames) (hlo : 8 + (maxL + 11) + lo ≤ R.locals) (hcd : Cond.code y bytes maxL rt ∈ T) (hini : Cond.initialized y.cls ∈ T) (hy : y.cls ≠ "java/lang/invoke/MethodHandle" ∧ y.cls ≠ "java/lang/invoke/VarHandle" ∧ (parseMethodDescriptor y.desc).map (fun d => d.parameters.length) = some As.length) (hlink : Cond.methodLink own index y ∈ T) (hst : st = As.reverse ++ rest) (hrest : (rest.map fun v => v.category).sum ≤ 8) (hcs : k + mc ≤ R.cells ∧ n + ms ≤ R.slots) (hdg : decode cc pc = .ok (.invokestatic index, 3))
    (kk : ∀ (rv : Option Value) (M' : Mem), post rv M' → V cl nL R Z (pc + 3) lv (rv.toList ++ rest) M' (k + mc) (n + ms)) : V cl nL R Z pc lv st M k n := by
  subst hst
  refine v_ret (mc := mc) (ms := ms) (post := post) (av := As.toArray) (y := y) (bytes := bytes) (maxL := maxL) (rt := rt) C (fun H locs ls hl hm hS => ?_) kk
  have tk : ∀ w ∈ T, w.before Z.args Z.s = true := fun w h => C.2.2.2.2.2.2.2.2.2 w h Z.args
  have CB : CallB R Z.s Z.args own index y bytes maxL rt [.code y bytes maxL rt] (rmOf fr lo mc ms) mc ms As.length := ⟨rfl, rfl, hfr, hlo, fun w hw a' U hW => by cases List.mem_singleton.mp hw; exact word_at hW (Or.inl rfl) (tk _ hcd), List.mem_cons_self, tk _ hcd, tk _ hini, ⟨hy.1, hy.2.1⟩, fun sig h => by have h2 := hy.2.2; rw [h] at h2; exact (Option.some.inj h2).symm, tk _ hlink⟩
  have PR : ∀ U : State, U.heap = H → Z.s.WarmedH U.vm → va_Pc As (fun U => U.heap.size = H.size ∧ mm_h Z.D cl M U.heap ∧ (∀ w ∈ T, mov w = true) ∧ Kw T Z.D cl tys U) As.toArray U := fun U hU hW => ⟨rfl, by rw [hU], by rw [hU]; exact hm.h, C.2.2.2.2.2.2.2.1, C.2.2.2.2.2.2.2.2.moved C.2.2.2.2.2.2.2.1 hW⟩
  exact va_runS (Ts := T) (own := own) ⟨C.1, C.2.1, C.2.2.1, C.2.2.2.1, tk⟩ (ct H.size) ⟨CB, tk _ hstat⟩ ⟨v_blind, PR⟩ rfl rfl hl.1 rfl (lv_room hrest) hdg hcs
theorem v_callI {y : MethodName} {bytes : ByteArray} {maxL : Nat} {fr lo mc ms index : Nat} {As rest : List Value} {post : Option Value → Mem → Prop} (C : Cx T cl tys own cc nL ret Z) {b : Nat} (hnm : y.name = "<init>") (hinst : Cond.instanceMethod y ∈ T) (ct : Ct T Z.D cl tys Z.l y bytes maxL none fr lo mc ms (.ref b :: As) M post) (hfr : fr + 1 ≤ R.frames) (hlo : 8 + (maxL + 11) + lo ≤ R.locals) (hcd : Cond.code y bytes maxL none ∈ T) (hini : Cond.initialized y.cls ∈ T) (hy : y.cls ≠ "java/lang/invoke/MethodHandle" ∧ y.cls ≠ "java/lang/invoke/VarHandle" ∧ (parseMethodDescriptor y.desc).map (fun d => d.parameters.length) = some As.length) (hlink : Cond.methodLink own index y ∈ T) (hst : st = As.reverse ++ .ref b :: rest) (hrest : (rest.map fun v => v.category).sum ≤ 8) (hcs : k + mc ≤ R.cells ∧ n + ms ≤ R.slots) (hdg : decode cc pc = .ok (.invokespecial index, 3))
    (kk : ∀ (rv : Option Value) (M' : Mem), post rv M' → V cl nL R Z (pc + 3) lv (rv.toList ++ rest) M' (k + mc) (n + ms)) : V cl nL R Z pc lv st M k n := by
  subst hst
  refine v_ret (mc := mc) (ms := ms) (post := post) (av := (.ref b :: As).toArray) (y := y) (bytes := bytes) (maxL := maxL) (rt := none) C (fun H locs ls hl hm hS => ?_) kk
  have tk : ∀ w ∈ T, w.before Z.args Z.s = true := fun w h => C.2.2.2.2.2.2.2.2.2 w h Z.args
  have CB : CallB R Z.s Z.args own index y bytes maxL none [.code y bytes maxL none] (rmOf fr lo mc ms) mc ms As.length := ⟨rfl, rfl, hfr, hlo, fun w hw a' U hW => by cases List.mem_singleton.mp hw; exact word_at hW (Or.inl rfl) (tk _ hcd), List.mem_cons_self, tk _ hcd, tk _ hini, ⟨hy.1, hy.2.1⟩, fun sig h => by have h2 := hy.2.2; rw [h] at h2; exact (Option.some.inj h2).symm, tk _ hlink⟩
  have PR : ∀ U : State, U.heap = H → Z.s.WarmedH U.vm → va_Pc (.ref b :: As) (fun U => U.heap.size = H.size ∧ mm_h Z.D cl M U.heap ∧ (∀ w ∈ T, mov w = true) ∧ Kw T Z.D cl tys U) (.ref b :: As).toArray U := fun U hU hW => ⟨rfl, by rw [hU], by rw [hU]; exact hm.h, C.2.2.2.2.2.2.2.1, C.2.2.2.2.2.2.2.2.moved C.2.2.2.2.2.2.2.1 hW⟩
  exact va_runI (Ts := T) (own := own) ⟨C.1, C.2.1, C.2.2.1, C.2.2.2.1, tk⟩ (ct H.size) ⟨CB, hnm, tk _ hinst⟩ ⟨v_blind, PR⟩ rfl rfl hl.1 rfl (lv_room hrest) hdg hcs
theorem v_callIN {y : MethodName} {bytes : ByteArray} {maxL : Nat} {fr lo mc ms index : Nat} {As rest : List Value} {post : Option Value → Mem → Prop} {host : String} (C : Cx T cl tys own cc nL ret Z) {b : Nat} (hnm : y.name = "<init>") (hinst : Cond.instanceMethod y ∈ T) (ct : Ct T Z.D cl tys Z.l y bytes maxL none fr lo mc ms (.ref b :: As) M post) (hfr : fr + 1 ≤ R.frames) (hlo : 8 + (maxL + 11) + lo ≤ R.locals) (hcd : Cond.code y bytes maxL none ∈ T) (hini : Cond.initialized y.cls ∈ T) (hy : y.cls ≠ "java/lang/invoke/MethodHandle" ∧ y.cls ≠ "java/lang/invoke/VarHandle" ∧ (parseMethodDescriptor y.desc).map (fun d => d.parameters.length) = some As.length) (hlink : Cond.methodLinkNest own index y host ∈ T) (hst : st = As.reverse ++ .ref b :: rest) (hrest : (rest.map fun v => v.category).sum ≤ 8) (hcs : k + mc ≤ R.cells ∧ n + ms ≤ R.slots) (hdg : decode cc pc = .ok (.invokespecial index, 3))
    (kk : ∀ (rv : Option Value) (M' : Mem), post rv M' → V cl nL R Z (pc + 3) lv (rv.toList ++ rest) M' (k + mc) (n + ms)) : V cl nL R Z pc lv st M k n := by
  subst hst
  refine v_ret (mc := mc) (ms := ms) (post := post) (av := (.ref b :: As : List Value).toArray) (y := y) (bytes := bytes) (maxL := maxL) (rt := none) C (fun H locs ls hl hm hS => ?_) kk
  have tk : ∀ w ∈ T, w.before Z.args Z.s = true := fun w h => C.2.2.2.2.2.2.2.2.2 w h Z.args
  have CB : va_CN R Z.s Z.args own index y host bytes maxL none [.code y bytes maxL none] (rmOf fr lo mc ms) mc ms As.length := ⟨⟨rfl, rfl, hfr, hlo, fun w hw a' U hW => by cases List.mem_singleton.mp hw; exact word_at hW (Or.inl rfl) (tk _ hcd), List.mem_cons_self⟩, tk _ hcd, tk _ hini, ⟨hy.1, hy.2.1⟩, fun sig h => by have h2 := hy.2.2; rw [h] at h2; exact (Option.some.inj h2).symm, tk _ hlink⟩
  have PR : ∀ U : State, U.heap = H → Z.s.WarmedH U.vm → va_Pc (.ref b :: As) (fun U => U.heap.size = H.size ∧ mm_h Z.D cl M U.heap ∧ (∀ w ∈ T, mov w = true) ∧ Kw T Z.D cl tys U) (.ref b :: As : List Value).toArray U := fun U hU hW => ⟨rfl, by rw [hU], by rw [hU]; exact hm.h, C.2.2.2.2.2.2.2.1, C.2.2.2.2.2.2.2.2.moved C.2.2.2.2.2.2.2.1 hW⟩
  exact va_runIN (Ts := T) (own := own) ⟨C.1, C.2.1, C.2.2.1, C.2.2.2.1, tk⟩ (ct H.size) ⟨CB, hnm, tk _ hinst⟩ ⟨v_blind, PR⟩ rfl rfl hl.1 rfl (lv_room hrest) hdg hcs
end VV
/-- a contract out of a walk -/
theorem ct_of {T : List Cond} {D : va_G} {cl : List vw_C} {tys : List (ClassId × FieldType)} {l : Launch} {y : MethodName} {cc : ByteArray} {maxL : Nat} {ret : Option FieldType} {fr lo mc ms : Nat} {av : List Value} {M : Mem} {post : Option Value → Mem → Prop} (own : String) (how : y.cls = own) (hy : plainName y.cls = true) (hav : (lg_sl av).length ≤ maxL)
    (body : ∀ Z : Zt, Z.l = l → Z.D = D → Z.meth.name = y.name → Z.Q = MQ Z.below (mq post Z.D cl Z.A) Z.args Z.s mc ms Z.A → Cx T cl tys own cc maxL ret Z → V cl maxL (rmOf fr lo mc ms) Z 0 (lv_args 0 av) [] M 0 0) : Ct T D cl tys l y cc maxL ret fr lo mc ms av M post := by
  subst how
  intro sz
  refine Met.ofW (cc := cc) (maxL := maxL) (ret := ret) hy rfl ?_
  intro p e s m args below meth c s₁ B hml hv
  obtain ⟨rfl, hsz, hmh, hmv, hKw⟩ := hv
  have hl := lv_entry av (n := maxL) hav
  rw [lg_entry_eq]
  exact body (D, mm_A M sz, p, l, e, s, m, av.toArray, below, meth, c, MQ below (mq post D cl (mm_A M sz)) av.toArray s mc ms (mm_A M sz)) rfl rfl (name_of_methodNamed B.named B.method).1 rfl ⟨B.exec, B.bytes, hml, findClass_of_methodNamed B.named, B.returns, B.notSynchronized, fun q h => Or.inr (by rw [← hsz]; exact h), hmv, hKw⟩ s.heap [] _ hl (mm_ok.self hmh sz) va_S.rf
/-- the frame: a memory beside stays as it is -/
def mun (M1 M2 : Mem) : Mem := fun a => match M1 a with
  | some e => some e
  | none => M2 a
def mdj (M1 M2 : Mem) : Prop := ∀ a, M1 a = none ∨ M2 a = none
theorem ct_mono {T : List Cond} {D : va_G} {cl : List vw_C} {tys : List (ClassId × FieldType)} {l : Launch} {y : MethodName} {cc : ByteArray} {maxL : Nat} {ret : Option FieldType} {fr lo mc ms : Nat} {av : List Value} {M : Mem} {post post' : Option Value → Mem → Prop} (h : Ct T D cl tys l y cc maxL ret fr lo mc ms av M post) (hp : ∀ rv M', post rv M' → post' rv M') : Ct T D cl tys l y cc maxL ret fr lo mc ms av M post' := by
  intro sz p e h1 h2 h3 s m args below h4 h5 h6 h7
  obtain ⟨n, o, a1, a2, a3, ⟨⟨rv, M', b1, b2, b3⟩, b4⟩, b5⟩ := h sz p e h1 h2 h3 s m args below h4 h5 h6 h7
  exact ⟨n, o, a1, a2, a3, ⟨⟨rv, M', b1, hp _ _ b2, b3⟩, b4⟩, b5⟩
theorem ct_frame {T : List Cond} {D : va_G} {cl : List vw_C} {tys : List (ClassId × FieldType)} {l : Launch} {y : MethodName} {cc : ByteArray} {maxL : Nat} {ret : Option FieldType} {fr lo mc ms : Nat} {av : List Value} {M1 : Mem} {post : Option Value → Mem → Prop} (h : Ct T D cl tys l y cc maxL ret fr lo mc ms av M1 post) (M2 : Mem) (hd : mdj M1 M2) : Ct T D cl tys l y cc maxL ret fr lo mc ms av (mun M1 M2) (fun rv M' => ∃ M1', post rv M1' ∧ mdj M1' M2 ∧ M' = mun M1' M2) := by
  intro sz p e h1 h2 h3 s m args below h4 h5 h6 h7
  obtain ⟨rfl, hsz, hmh, hmv, hKw⟩ := h6
  have hmA : ∀ q, mm_A M1 sz q → mm_A (mun M1 M2) sz q := fun q hq => by
    rcases hq with ⟨x, hx⟩ | hq
    · exact Or.inl ⟨x, by simp [mun, hx]⟩
    · exact Or.inr hq
  have hmh1 : mm_h D cl M1 s.heap := fun a e ha => hmh a e (by simp [mun, ha])
  have hmh2 : mm_h D cl M2 s.heap := fun a e ha => hmh a e (by
    rcases hd a with h | h
    · simp [mun, h, ha]
    · rw [h] at ha; cases ha)
  obtain ⟨n, o, a1, a2, a3, ⟨⟨rv, M', b1, b2, b3⟩, b4⟩, L, b5, b6⟩ := h sz p e h1 h2 h3 s m _ below h4 h5 ⟨rfl, hsz, hmh1, hmv, hKw⟩ h7
  have hdj : mdj M' M2 := fun a => by
    cases hx : M' a with
    | none => exact Or.inl rfl
    | some x =>
      cases hy : M2 a with
      | none => exact Or.inr rfl
      | some y =>
        exfalso
        have hlt := (hmh2 a y hy).lt
        rcases (b3 a x hx).1 with ⟨z, hz⟩ | hz
        · rcases hd a with h | h
          · rw [h] at hz; cases hz
          · rw [h] at hy; cases hy
        · have : a < s.heap.size := hlt
          omega
  refine ⟨n, o, a1, a2, a3, ⟨⟨rv, mun M' M2, b1, ⟨M', b2, hdj, rfl⟩, ?_⟩, b4.1, fun q g1 g2 => b4.2 q g1 (fun z => g2 (hmA q z))⟩, L, b5, fun q hq => hmA _ (b6 q hq)⟩
  intro a e ha
  cases hx : M' a with
  | some x =>
    have : e = x := by simp [mun, hx] at ha; exact ha.symm
    subst this
    exact ⟨hmA a (b3 a e hx).1, (b3 a e hx).2⟩
  | none =>
    have ha2 : M2 a = some e := by simpa [mun, hx] using ha
    have hm1 : M1 a = none := by
      rcases hd a with h | h
      · exact h
      · rw [h] at ha2; cases ha2
    have hlt : a < s.heap.size := (hmh2 a e ha2).lt
    refine ⟨Or.inl ⟨e, by simp [mun, hm1, ha2]⟩, (hmh2 a e ha2).kept (b4.2 a hlt ?_)⟩
    intro hz
    rcases hz with ⟨x, hz⟩ | hz
    · rw [hm1] at hz; cases hz
    · omega
end
section
theorem d_Ar_fill_0 : decode b_Ar_fill 0 = .ok (.iconst 0, 1) := by decide +kernel
theorem d_Ar_fill_1 : decode b_Ar_fill 1 = .ok (.istore_n 2, 1) := by decide +kernel
theorem d_Ar_fill_2 : decode b_Ar_fill 2 = .ok (.aload_n 0, 1) := by decide +kernel
theorem d_Ar_fill_3 : decode b_Ar_fill 3 = .ok (.arraylength, 1) := by decide +kernel
theorem d_Ar_fill_4 : decode b_Ar_fill 4 = .ok (.istore_n 3, 1) := by decide +kernel
theorem d_Ar_fill_5 : decode b_Ar_fill 5 = .ok (.iload_n 2, 1) := by decide +kernel
theorem d_Ar_fill_6 : decode b_Ar_fill 6 = .ok (.iload_n 3, 1) := by decide +kernel
theorem d_Ar_fill_7 : decode b_Ar_fill 7 = .ok (.if_icmp .ge 13, 3) := by decide +kernel
theorem d_Ar_fill_10 : decode b_Ar_fill 10 = .ok (.aload_n 0, 1) := by decide +kernel
theorem d_Ar_fill_11 : decode b_Ar_fill 11 = .ok (.iload_n 2, 1) := by decide +kernel
theorem d_Ar_fill_12 : decode b_Ar_fill 12 = .ok (.iload_n 1, 1) := by decide +kernel
theorem d_Ar_fill_13 : decode b_Ar_fill 13 = .ok (.iastore, 1) := by decide +kernel
theorem d_Ar_fill_14 : decode b_Ar_fill 14 = .ok (.iinc 2 1, 3) := by decide +kernel
theorem d_Ar_fill_17 : decode b_Ar_fill 17 = .ok (.goto (-12), 3) := by decide +kernel
theorem d_Ar_fill_20 : decode b_Ar_fill 20 = .ok (.return_, 1) := by decide +kernel
theorem d_Ln_init_0 : decode b_Ln_init 0 = .ok (.aload_n 0, 1) := by decide +kernel
theorem d_Ln_init_1 : decode b_Ln_init 1 = .ok (.invokespecial 1, 3) := by decide +kernel
theorem d_Ln_init_4 : decode b_Ln_init 4 = .ok (.aload_n 0, 1) := by decide +kernel
theorem d_Ln_init_5 : decode b_Ln_init 5 = .ok (.iconst 0, 1) := by decide +kernel
theorem d_Ln_init_6 : decode b_Ln_init 6 = .ok (.putfield 7, 3) := by decide +kernel
theorem d_Ln_init_9 : decode b_Ln_init 9 = .ok (.aload_n 0, 1) := by decide +kernel
theorem d_Ln_init_10 : decode b_Ln_init 10 = .ok (.iload_n 1, 1) := by decide +kernel
theorem d_Ln_init_11 : decode b_Ln_init 11 = .ok (.anewarray 13, 3) := by decide +kernel
theorem d_Ln_init_14 : decode b_Ln_init 14 = .ok (.putfield 15, 3) := by decide +kernel
theorem d_Ln_init_17 : decode b_Ln_init 17 = .ok (.iconst 0, 1) := by decide +kernel
theorem d_Ln_init_18 : decode b_Ln_init 18 = .ok (.istore_n 2, 1) := by decide +kernel
theorem d_Ln_init_19 : decode b_Ln_init 19 = .ok (.iload_n 2, 1) := by decide +kernel
theorem d_Ln_init_20 : decode b_Ln_init 20 = .ok (.iload_n 1, 1) := by decide +kernel
theorem d_Ln_init_21 : decode b_Ln_init 21 = .ok (.if_icmp .ge 22, 3) := by decide +kernel
theorem d_Ln_init_24 : decode b_Ln_init 24 = .ok (.aload_n 0, 1) := by decide +kernel
theorem d_Ln_init_25 : decode b_Ln_init 25 = .ok (.getfield 15, 3) := by decide +kernel
theorem d_Ln_init_28 : decode b_Ln_init 28 = .ok (.iload_n 2, 1) := by decide +kernel
theorem d_Ln_init_29 : decode b_Ln_init 29 = .ok (.new 13, 3) := by decide +kernel
theorem d_Ln_init_32 : decode b_Ln_init 32 = .ok (.dup, 1) := by decide +kernel
theorem d_Ln_init_33 : decode b_Ln_init 33 = .ok (.invokespecial 19, 3) := by decide +kernel
theorem d_Ln_init_36 : decode b_Ln_init 36 = .ok (.aastore, 1) := by decide +kernel
theorem d_Ln_init_37 : decode b_Ln_init 37 = .ok (.iinc 2 1, 3) := by decide +kernel
theorem d_Ln_init_40 : decode b_Ln_init 40 = .ok (.goto (-21), 3) := by decide +kernel
theorem d_Ln_init_43 : decode b_Ln_init 43 = .ok (.return_, 1) := by decide +kernel
theorem d_Ln_putNewest_0 : decode b_Ln_putNewest 0 = .ok (.aload_n 0, 1) := by decide +kernel
theorem d_Ln_putNewest_1 : decode b_Ln_putNewest 1 = .ok (.getfield 7, 3) := by decide +kernel
theorem d_Ln_putNewest_4 : decode b_Ln_putNewest 4 = .ok (.aload_n 0, 1) := by decide +kernel
theorem d_Ln_putNewest_5 : decode b_Ln_putNewest 5 = .ok (.getfield 15, 3) := by decide +kernel
theorem d_Ln_putNewest_8 : decode b_Ln_putNewest 8 = .ok (.arraylength, 1) := by decide +kernel
theorem d_Ln_putNewest_9 : decode b_Ln_putNewest 9 = .ok (.if_icmp .lt 5, 3) := by decide +kernel
theorem d_Ln_putNewest_12 : decode b_Ln_putNewest 12 = .ok (.aconst_null, 1) := by decide +kernel
theorem d_Ln_putNewest_13 : decode b_Ln_putNewest 13 = .ok (.areturn, 1) := by decide +kernel
theorem d_Ln_putNewest_14 : decode b_Ln_putNewest 14 = .ok (.aload_n 0, 1) := by decide +kernel
theorem d_Ln_putNewest_15 : decode b_Ln_putNewest 15 = .ok (.dup, 1) := by decide +kernel
theorem d_Ln_putNewest_16 : decode b_Ln_putNewest 16 = .ok (.getfield 7, 3) := by decide +kernel
theorem d_Ln_putNewest_19 : decode b_Ln_putNewest 19 = .ok (.iconst 1, 1) := by decide +kernel
theorem d_Ln_putNewest_20 : decode b_Ln_putNewest 20 = .ok (.iadd, 1) := by decide +kernel
theorem d_Ln_putNewest_21 : decode b_Ln_putNewest 21 = .ok (.putfield 7, 3) := by decide +kernel
theorem d_Ln_putNewest_24 : decode b_Ln_putNewest 24 = .ok (.aload_n 0, 1) := by decide +kernel
theorem d_Ln_putNewest_25 : decode b_Ln_putNewest 25 = .ok (.getfield 15, 3) := by decide +kernel
theorem d_Ln_putNewest_28 : decode b_Ln_putNewest 28 = .ok (.aload_n 0, 1) := by decide +kernel
theorem d_Ln_putNewest_29 : decode b_Ln_putNewest 29 = .ok (.getfield 7, 3) := by decide +kernel
theorem d_Ln_putNewest_32 : decode b_Ln_putNewest 32 = .ok (.iconst 1, 1) := by decide +kernel
theorem d_Ln_putNewest_33 : decode b_Ln_putNewest 33 = .ok (.isub, 1) := by decide +kernel
theorem d_Ln_putNewest_34 : decode b_Ln_putNewest 34 = .ok (.aaload, 1) := by decide +kernel
theorem d_Ln_putNewest_35 : decode b_Ln_putNewest 35 = .ok (.areturn, 1) := by decide +kernel
theorem d_Ln_takeOldest_0 : decode b_Ln_takeOldest 0 = .ok (.aload_n 0, 1) := by decide +kernel
theorem d_Ln_takeOldest_1 : decode b_Ln_takeOldest 1 = .ok (.getfield 7, 3) := by decide +kernel
theorem d_Ln_takeOldest_4 : decode b_Ln_takeOldest 4 = .ok (.ifCond .ne 5, 3) := by decide +kernel
theorem d_Ln_takeOldest_7 : decode b_Ln_takeOldest 7 = .ok (.aconst_null, 1) := by decide +kernel
theorem d_Ln_takeOldest_8 : decode b_Ln_takeOldest 8 = .ok (.areturn, 1) := by decide +kernel
theorem d_Ln_takeOldest_9 : decode b_Ln_takeOldest 9 = .ok (.aload_n 0, 1) := by decide +kernel
theorem d_Ln_takeOldest_10 : decode b_Ln_takeOldest 10 = .ok (.getfield 15, 3) := by decide +kernel
theorem d_Ln_takeOldest_13 : decode b_Ln_takeOldest 13 = .ok (.iconst 0, 1) := by decide +kernel
theorem d_Ln_takeOldest_14 : decode b_Ln_takeOldest 14 = .ok (.aaload, 1) := by decide +kernel
theorem d_Ln_takeOldest_15 : decode b_Ln_takeOldest 15 = .ok (.astore_n 1, 1) := by decide +kernel
theorem d_Ln_takeOldest_16 : decode b_Ln_takeOldest 16 = .ok (.aload_n 0, 1) := by decide +kernel
theorem d_Ln_takeOldest_17 : decode b_Ln_takeOldest 17 = .ok (.dup, 1) := by decide +kernel
theorem d_Ln_takeOldest_18 : decode b_Ln_takeOldest 18 = .ok (.getfield 7, 3) := by decide +kernel
theorem d_Ln_takeOldest_21 : decode b_Ln_takeOldest 21 = .ok (.iconst 1, 1) := by decide +kernel
theorem d_Ln_takeOldest_22 : decode b_Ln_takeOldest 22 = .ok (.isub, 1) := by decide +kernel
theorem d_Ln_takeOldest_23 : decode b_Ln_takeOldest 23 = .ok (.putfield 7, 3) := by decide +kernel
theorem d_Ln_takeOldest_26 : decode b_Ln_takeOldest 26 = .ok (.iconst 0, 1) := by decide +kernel
theorem d_Ln_takeOldest_27 : decode b_Ln_takeOldest 27 = .ok (.istore_n 2, 1) := by decide +kernel
theorem d_Ln_takeOldest_28 : decode b_Ln_takeOldest 28 = .ok (.iload_n 2, 1) := by decide +kernel
theorem d_Ln_takeOldest_29 : decode b_Ln_takeOldest 29 = .ok (.aload_n 0, 1) := by decide +kernel
theorem d_Ln_takeOldest_30 : decode b_Ln_takeOldest 30 = .ok (.getfield 7, 3) := by decide +kernel
theorem d_Ln_takeOldest_33 : decode b_Ln_takeOldest 33 = .ok (.if_icmp .ge 23, 3) := by decide +kernel
theorem d_Ln_takeOldest_36 : decode b_Ln_takeOldest 36 = .ok (.aload_n 0, 1) := by decide +kernel
theorem d_Ln_takeOldest_37 : decode b_Ln_takeOldest 37 = .ok (.getfield 15, 3) := by decide +kernel
theorem d_Ln_takeOldest_40 : decode b_Ln_takeOldest 40 = .ok (.iload_n 2, 1) := by decide +kernel
theorem d_Ln_takeOldest_41 : decode b_Ln_takeOldest 41 = .ok (.aload_n 0, 1) := by decide +kernel
theorem d_Ln_takeOldest_42 : decode b_Ln_takeOldest 42 = .ok (.getfield 15, 3) := by decide +kernel
theorem d_Ln_takeOldest_45 : decode b_Ln_takeOldest 45 = .ok (.iload_n 2, 1) := by decide +kernel
theorem d_Ln_takeOldest_46 : decode b_Ln_takeOldest 46 = .ok (.iconst 1, 1) := by decide +kernel
theorem d_Ln_takeOldest_47 : decode b_Ln_takeOldest 47 = .ok (.iadd, 1) := by decide +kernel
theorem d_Ln_takeOldest_48 : decode b_Ln_takeOldest 48 = .ok (.aaload, 1) := by decide +kernel
theorem d_Ln_takeOldest_49 : decode b_Ln_takeOldest 49 = .ok (.aastore, 1) := by decide +kernel
theorem d_Ln_takeOldest_50 : decode b_Ln_takeOldest 50 = .ok (.iinc 2 1, 3) := by decide +kernel
theorem d_Ln_takeOldest_53 : decode b_Ln_takeOldest 53 = .ok (.goto (-25), 3) := by decide +kernel
theorem d_Ln_takeOldest_56 : decode b_Ln_takeOldest 56 = .ok (.aload_n 0, 1) := by decide +kernel
theorem d_Ln_takeOldest_57 : decode b_Ln_takeOldest 57 = .ok (.getfield 15, 3) := by decide +kernel
theorem d_Ln_takeOldest_60 : decode b_Ln_takeOldest 60 = .ok (.aload_n 0, 1) := by decide +kernel
theorem d_Ln_takeOldest_61 : decode b_Ln_takeOldest 61 = .ok (.getfield 7, 3) := by decide +kernel
theorem d_Ln_takeOldest_64 : decode b_Ln_takeOldest 64 = .ok (.aload_n 1, 1) := by decide +kernel
theorem d_Ln_takeOldest_65 : decode b_Ln_takeOldest 65 = .ok (.aastore, 1) := by decide +kernel
theorem d_Ln_takeOldest_66 : decode b_Ln_takeOldest 66 = .ok (.aload_n 1, 1) := by decide +kernel
theorem d_Ln_takeOldest_67 : decode b_Ln_takeOldest 67 = .ok (.areturn, 1) := by decide +kernel
theorem d_Ln_clear_0 : decode b_Ln_clear 0 = .ok (.aload_n 0, 1) := by decide +kernel
theorem d_Ln_clear_1 : decode b_Ln_clear 1 = .ok (.iconst 0, 1) := by decide +kernel
theorem d_Ln_clear_2 : decode b_Ln_clear 2 = .ok (.putfield 7, 3) := by decide +kernel
theorem d_Ln_clear_5 : decode b_Ln_clear 5 = .ok (.return_, 1) := by decide +kernel
theorem d_Ln_messageAt_0 : decode b_Ln_messageAt 0 = .ok (.iload_n 1, 1) := by decide +kernel
theorem d_Ln_messageAt_1 : decode b_Ln_messageAt 1 = .ok (.ifCond .lt 20, 3) := by decide +kernel
theorem d_Ln_messageAt_4 : decode b_Ln_messageAt 4 = .ok (.iload_n 1, 1) := by decide +kernel
theorem d_Ln_messageAt_5 : decode b_Ln_messageAt 5 = .ok (.aload_n 0, 1) := by decide +kernel
theorem d_Ln_messageAt_6 : decode b_Ln_messageAt 6 = .ok (.getfield 7, 3) := by decide +kernel
theorem d_Ln_messageAt_9 : decode b_Ln_messageAt 9 = .ok (.if_icmp .ge 12, 3) := by decide +kernel
theorem d_Ln_messageAt_12 : decode b_Ln_messageAt 12 = .ok (.aload_n 0, 1) := by decide +kernel
theorem d_Ln_messageAt_13 : decode b_Ln_messageAt 13 = .ok (.getfield 15, 3) := by decide +kernel
theorem d_Ln_messageAt_16 : decode b_Ln_messageAt 16 = .ok (.iload_n 1, 1) := by decide +kernel
theorem d_Ln_messageAt_17 : decode b_Ln_messageAt 17 = .ok (.aaload, 1) := by decide +kernel
theorem d_Ln_messageAt_18 : decode b_Ln_messageAt 18 = .ok (.goto 4, 3) := by decide +kernel
theorem d_Ln_messageAt_21 : decode b_Ln_messageAt 21 = .ok (.aconst_null, 1) := by decide +kernel
theorem d_Ln_messageAt_22 : decode b_Ln_messageAt 22 = .ok (.areturn, 1) := by decide +kernel
theorem d_Ms_init_0 : decode b_Ms_init 0 = .ok (.aload_n 0, 1) := by decide +kernel
theorem d_Ms_init_1 : decode b_Ms_init 1 = .ok (.invokespecial 3, 3) := by decide +kernel
theorem d_Ms_init_4 : decode b_Ms_init 4 = .ok (.aload_n 0, 1) := by decide +kernel
theorem d_Ms_init_5 : decode b_Ms_init 5 = .ok (.iconst 0, 1) := by decide +kernel
theorem d_Ms_init_6 : decode b_Ms_init 6 = .ok (.putfield 9, 3) := by decide +kernel
theorem d_Ms_init_9 : decode b_Ms_init 9 = .ok (.aload_n 0, 1) := by decide +kernel
theorem d_Ms_init_10 : decode b_Ms_init 10 = .ok (.iconst 0, 1) := by decide +kernel
theorem d_Ms_init_11 : decode b_Ms_init 11 = .ok (.putfield 15, 3) := by decide +kernel
theorem d_Ms_init_14 : decode b_Ms_init 14 = .ok (.aload_n 0, 1) := by decide +kernel
theorem d_Ms_init_15 : decode b_Ms_init 15 = .ok (.iconst 0, 1) := by decide +kernel
theorem d_Ms_init_16 : decode b_Ms_init 16 = .ok (.putfield 18, 3) := by decide +kernel
theorem d_Ms_init_19 : decode b_Ms_init 19 = .ok (.aload_n 0, 1) := by decide +kernel
theorem d_Ms_init_20 : decode b_Ms_init 20 = .ok (.iconst 0, 1) := by decide +kernel
theorem d_Ms_init_21 : decode b_Ms_init 21 = .ok (.putfield 21, 3) := by decide +kernel
theorem d_Ms_init_24 : decode b_Ms_init 24 = .ok (.aload_n 0, 1) := by decide +kernel
theorem d_Ms_init_25 : decode b_Ms_init 25 = .ok (.iconst 0, 1) := by decide +kernel
theorem d_Ms_init_26 : decode b_Ms_init 26 = .ok (.putfield 24, 3) := by decide +kernel
theorem d_Ms_init_29 : decode b_Ms_init 29 = .ok (.aload_n 0, 1) := by decide +kernel
theorem d_Ms_init_30 : decode b_Ms_init 30 = .ok (.iconst 0, 1) := by decide +kernel
theorem d_Ms_init_31 : decode b_Ms_init 31 = .ok (.putfield 27, 3) := by decide +kernel
theorem d_Ms_init_34 : decode b_Ms_init 34 = .ok (.return_, 1) := by decide +kernel
theorem d_Ms_fill_0 : decode b_Ms_fill 0 = .ok (.aload_n 0, 1) := by decide +kernel
theorem d_Ms_fill_1 : decode b_Ms_fill 1 = .ok (.iload_n 1, 1) := by decide +kernel
theorem d_Ms_fill_2 : decode b_Ms_fill 2 = .ok (.putfield 9, 3) := by decide +kernel
theorem d_Ms_fill_5 : decode b_Ms_fill 5 = .ok (.aload_n 0, 1) := by decide +kernel
theorem d_Ms_fill_6 : decode b_Ms_fill 6 = .ok (.iload_n 2, 1) := by decide +kernel
theorem d_Ms_fill_7 : decode b_Ms_fill 7 = .ok (.putfield 15, 3) := by decide +kernel
theorem d_Ms_fill_10 : decode b_Ms_fill 10 = .ok (.aload_n 0, 1) := by decide +kernel
theorem d_Ms_fill_11 : decode b_Ms_fill 11 = .ok (.iload_n 3, 1) := by decide +kernel
theorem d_Ms_fill_12 : decode b_Ms_fill 12 = .ok (.putfield 18, 3) := by decide +kernel
theorem d_Ms_fill_15 : decode b_Ms_fill 15 = .ok (.aload_n 0, 1) := by decide +kernel
theorem d_Ms_fill_16 : decode b_Ms_fill 16 = .ok (.iload 4, 2) := by decide +kernel
theorem d_Ms_fill_18 : decode b_Ms_fill 18 = .ok (.putfield 21, 3) := by decide +kernel
theorem d_Ms_fill_21 : decode b_Ms_fill 21 = .ok (.aload_n 0, 1) := by decide +kernel
theorem d_Ms_fill_22 : decode b_Ms_fill 22 = .ok (.iload 5, 2) := by decide +kernel
theorem d_Ms_fill_24 : decode b_Ms_fill 24 = .ok (.putfield 24, 3) := by decide +kernel
theorem d_Ms_fill_27 : decode b_Ms_fill 27 = .ok (.aload_n 0, 1) := by decide +kernel
theorem d_Ms_fill_28 : decode b_Ms_fill 28 = .ok (.iconst 0, 1) := by decide +kernel
theorem d_Ms_fill_29 : decode b_Ms_fill 29 = .ok (.putfield 27, 3) := by decide +kernel
theorem d_Ms_fill_32 : decode b_Ms_fill 32 = .ok (.return_, 1) := by decide +kernel
theorem d_Rq_init_0 : decode b_Rq_init 0 = .ok (.aload_n 0, 1) := by decide +kernel
theorem d_Rq_init_1 : decode b_Rq_init 1 = .ok (.invokespecial 3, 3) := by decide +kernel
theorem d_Rq_init_4 : decode b_Rq_init 4 = .ok (.aload_n 0, 1) := by decide +kernel
theorem d_Rq_init_5 : decode b_Rq_init 5 = .ok (.iconst 0, 1) := by decide +kernel
theorem d_Rq_init_6 : decode b_Rq_init 6 = .ok (.putfield 9, 3) := by decide +kernel
theorem d_Rq_init_9 : decode b_Rq_init 9 = .ok (.aload_n 0, 1) := by decide +kernel
theorem d_Rq_init_10 : decode b_Rq_init 10 = .ok (.iload_n 1, 1) := by decide +kernel
theorem d_Rq_init_11 : decode b_Rq_init 11 = .ok (.putfield 15, 3) := by decide +kernel
theorem d_Rq_init_14 : decode b_Rq_init 14 = .ok (.aload_n 0, 1) := by decide +kernel
theorem d_Rq_init_15 : decode b_Rq_init 15 = .ok (.iload_n 2, 1) := by decide +kernel
theorem d_Rq_init_16 : decode b_Rq_init 16 = .ok (.putfield 18, 3) := by decide +kernel
theorem d_Rq_init_19 : decode b_Rq_init 19 = .ok (.aload_n 0, 1) := by decide +kernel
theorem d_Rq_init_20 : decode b_Rq_init 20 = .ok (.iload_n 3, 1) := by decide +kernel
theorem d_Rq_init_21 : decode b_Rq_init 21 = .ok (.putfield 21, 3) := by decide +kernel
theorem d_Rq_init_24 : decode b_Rq_init 24 = .ok (.aload_n 0, 1) := by decide +kernel
theorem d_Rq_init_25 : decode b_Rq_init 25 = .ok (.iload 4, 2) := by decide +kernel
theorem d_Rq_init_27 : decode b_Rq_init 27 = .ok (.putfield 24, 3) := by decide +kernel
theorem d_Rq_init_30 : decode b_Rq_init 30 = .ok (.aload_n 0, 1) := by decide +kernel
theorem d_Rq_init_31 : decode b_Rq_init 31 = .ok (.iload_n 1, 1) := by decide +kernel
theorem d_Rq_init_32 : decode b_Rq_init 32 = .ok (.iconst 1, 1) := by decide +kernel
theorem d_Rq_init_33 : decode b_Rq_init 33 = .ok (.if_icmp .ne 7, 3) := by decide +kernel
theorem d_Rq_init_36 : decode b_Rq_init 36 = .ok (.iload_n 3, 1) := by decide +kernel
theorem d_Rq_init_37 : decode b_Rq_init 37 = .ok (.goto 4, 3) := by decide +kernel
theorem d_Rq_init_40 : decode b_Rq_init 40 = .ok (.iconst 0, 1) := by decide +kernel
theorem d_Rq_init_41 : decode b_Rq_init 41 = .ok (.newarray .int, 2) := by decide +kernel
theorem d_Rq_init_43 : decode b_Rq_init 43 = .ok (.putfield 27, 3) := by decide +kernel
theorem d_Rq_init_46 : decode b_Rq_init 46 = .ok (.return_, 1) := by decide +kernel
theorem d_Rq_reopen_0 : decode b_Rq_reopen 0 = .ok (.aload_n 0, 1) := by decide +kernel
theorem d_Rq_reopen_1 : decode b_Rq_reopen 1 = .ok (.iconst 0, 1) := by decide +kernel
theorem d_Rq_reopen_2 : decode b_Rq_reopen 2 = .ok (.putfield 9, 3) := by decide +kernel
theorem d_Rq_reopen_5 : decode b_Rq_reopen 5 = .ok (.aload_n 0, 1) := by decide +kernel
theorem d_Rq_reopen_6 : decode b_Rq_reopen 6 = .ok (.getfield 27, 3) := by decide +kernel
theorem d_Rq_reopen_9 : decode b_Rq_reopen 9 = .ok (.iconst 0, 1) := by decide +kernel
theorem d_Rq_reopen_10 : decode b_Rq_reopen 10 = .ok (.invokestatic 31, 3) := by decide +kernel
theorem d_Rq_reopen_13 : decode b_Rq_reopen 13 = .ok (.return_, 1) := by decide +kernel
theorem d_Rq_keepResult_0 : decode b_Rq_keepResult 0 = .ok (.iload_n 1, 1) := by decide +kernel
theorem d_Rq_keepResult_1 : decode b_Rq_keepResult 1 = .ok (.ifCond .lt 19, 3) := by decide +kernel
theorem d_Rq_keepResult_4 : decode b_Rq_keepResult 4 = .ok (.iload_n 1, 1) := by decide +kernel
theorem d_Rq_keepResult_5 : decode b_Rq_keepResult 5 = .ok (.aload_n 0, 1) := by decide +kernel
theorem d_Rq_keepResult_6 : decode b_Rq_keepResult 6 = .ok (.getfield 27, 3) := by decide +kernel
theorem d_Rq_keepResult_9 : decode b_Rq_keepResult 9 = .ok (.arraylength, 1) := by decide +kernel
theorem d_Rq_keepResult_10 : decode b_Rq_keepResult 10 = .ok (.if_icmp .ge 10, 3) := by decide +kernel
theorem d_Rq_keepResult_13 : decode b_Rq_keepResult 13 = .ok (.aload_n 0, 1) := by decide +kernel
theorem d_Rq_keepResult_14 : decode b_Rq_keepResult 14 = .ok (.getfield 27, 3) := by decide +kernel
theorem d_Rq_keepResult_17 : decode b_Rq_keepResult 17 = .ok (.iload_n 1, 1) := by decide +kernel
theorem d_Rq_keepResult_18 : decode b_Rq_keepResult 18 = .ok (.iload_n 2, 1) := by decide +kernel
theorem d_Rq_keepResult_19 : decode b_Rq_keepResult 19 = .ok (.iastore, 1) := by decide +kernel
theorem d_Rq_keepResult_20 : decode b_Rq_keepResult 20 = .ok (.return_, 1) := by decide +kernel
theorem d_St_init_0 : decode b_St_init 0 = .ok (.aload_n 0, 1) := by decide +kernel
theorem d_St_init_1 : decode b_St_init 1 = .ok (.invokespecial 3, 3) := by decide +kernel
theorem d_St_init_4 : decode b_St_init 4 = .ok (.aload_n 0, 1) := by decide +kernel
theorem d_St_init_5 : decode b_St_init 5 = .ok (.bipush 16, 2) := by decide +kernel
theorem d_St_init_7 : decode b_St_init 7 = .ok (.newarray .int, 2) := by decide +kernel
theorem d_St_init_9 : decode b_St_init 9 = .ok (.putfield 9, 3) := by decide +kernel
theorem d_St_init_12 : decode b_St_init 12 = .ok (.aload_n 0, 1) := by decide +kernel
theorem d_St_init_13 : decode b_St_init 13 = .ok (.iconst 0, 1) := by decide +kernel
theorem d_St_init_14 : decode b_St_init 14 = .ok (.putfield 15, 3) := by decide +kernel
theorem d_St_init_17 : decode b_St_init 17 = .ok (.aload_n 0, 1) := by decide +kernel
theorem d_St_init_18 : decode b_St_init 18 = .ok (.iload_n 1, 1) := by decide +kernel
theorem d_St_init_19 : decode b_St_init 19 = .ok (.putfield 19, 3) := by decide +kernel
theorem d_St_init_22 : decode b_St_init 22 = .ok (.aload_n 0, 1) := by decide +kernel
theorem d_St_init_23 : decode b_St_init 23 = .ok (.iload_n 1, 1) := by decide +kernel
theorem d_St_init_24 : decode b_St_init 24 = .ok (.iconst 1, 1) := by decide +kernel
theorem d_St_init_25 : decode b_St_init 25 = .ok (.iadd, 1) := by decide +kernel
theorem d_St_init_26 : decode b_St_init 26 = .ok (.newarray .int, 2) := by decide +kernel
theorem d_St_init_28 : decode b_St_init 28 = .ok (.putfield 22, 3) := by decide +kernel
theorem d_St_init_31 : decode b_St_init 31 = .ok (.aload_n 0, 1) := by decide +kernel
theorem d_St_init_32 : decode b_St_init 32 = .ok (.iload_n 1, 1) := by decide +kernel
theorem d_St_init_33 : decode b_St_init 33 = .ok (.iconst 1, 1) := by decide +kernel
theorem d_St_init_34 : decode b_St_init 34 = .ok (.iadd, 1) := by decide +kernel
theorem d_St_init_35 : decode b_St_init 35 = .ok (.newarray .int, 2) := by decide +kernel
theorem d_St_init_37 : decode b_St_init 37 = .ok (.putfield 25, 3) := by decide +kernel
theorem d_St_init_40 : decode b_St_init 40 = .ok (.return_, 1) := by decide +kernel
theorem d_St_put_0 : decode b_St_put 0 = .ok (.aload_n 0, 1) := by decide +kernel
theorem d_St_put_1 : decode b_St_put 1 = .ok (.iload_n 1, 1) := by decide +kernel
theorem d_St_put_2 : decode b_St_put 2 = .ok (.invokevirtual 28, 3) := by decide +kernel
theorem d_St_put_5 : decode b_St_put 5 = .ok (.istore_n 3, 1) := by decide +kernel
theorem d_St_put_6 : decode b_St_put 6 = .ok (.iload_n 3, 1) := by decide +kernel
theorem d_St_put_7 : decode b_St_put 7 = .ok (.bipush (-3), 2) := by decide +kernel
theorem d_St_put_9 : decode b_St_put 9 = .ok (.if_icmp .eq 11, 3) := by decide +kernel
theorem d_St_put_12 : decode b_St_put 12 = .ok (.aload_n 0, 1) := by decide +kernel
theorem d_St_put_13 : decode b_St_put 13 = .ok (.getfield 25, 3) := by decide +kernel
theorem d_St_put_16 : decode b_St_put 16 = .ok (.iload_n 3, 1) := by decide +kernel
theorem d_St_put_17 : decode b_St_put 17 = .ok (.iload_n 2, 1) := by decide +kernel
theorem d_St_put_18 : decode b_St_put 18 = .ok (.iastore, 1) := by decide +kernel
theorem d_St_put_19 : decode b_St_put 19 = .ok (.return_, 1) := by decide +kernel
theorem d_St_put_20 : decode b_St_put 20 = .ok (.aload_n 0, 1) := by decide +kernel
theorem d_St_put_21 : decode b_St_put 21 = .ok (.getfield 22, 3) := by decide +kernel
theorem d_St_put_24 : decode b_St_put 24 = .ok (.aload_n 0, 1) := by decide +kernel
theorem d_St_put_25 : decode b_St_put 25 = .ok (.getfield 15, 3) := by decide +kernel
theorem d_St_put_28 : decode b_St_put 28 = .ok (.iload_n 1, 1) := by decide +kernel
theorem d_St_put_29 : decode b_St_put 29 = .ok (.iastore, 1) := by decide +kernel
theorem d_St_put_30 : decode b_St_put 30 = .ok (.aload_n 0, 1) := by decide +kernel
theorem d_St_put_31 : decode b_St_put 31 = .ok (.getfield 25, 3) := by decide +kernel
theorem d_St_put_34 : decode b_St_put 34 = .ok (.aload_n 0, 1) := by decide +kernel
theorem d_St_put_35 : decode b_St_put 35 = .ok (.getfield 15, 3) := by decide +kernel
theorem d_St_put_38 : decode b_St_put 38 = .ok (.iload_n 2, 1) := by decide +kernel
theorem d_St_put_39 : decode b_St_put 39 = .ok (.iastore, 1) := by decide +kernel
theorem d_St_put_40 : decode b_St_put 40 = .ok (.aload_n 0, 1) := by decide +kernel
theorem d_St_put_41 : decode b_St_put 41 = .ok (.dup, 1) := by decide +kernel
theorem d_St_put_42 : decode b_St_put 42 = .ok (.getfield 15, 3) := by decide +kernel
theorem d_St_put_45 : decode b_St_put 45 = .ok (.iconst 1, 1) := by decide +kernel
theorem d_St_put_46 : decode b_St_put 46 = .ok (.iadd, 1) := by decide +kernel
theorem d_St_put_47 : decode b_St_put 47 = .ok (.putfield 15, 3) := by decide +kernel
theorem d_St_put_50 : decode b_St_put 50 = .ok (.aload_n 0, 1) := by decide +kernel
theorem d_St_put_51 : decode b_St_put 51 = .ok (.getfield 15, 3) := by decide +kernel
theorem d_St_put_54 : decode b_St_put 54 = .ok (.aload_n 0, 1) := by decide +kernel
theorem d_St_put_55 : decode b_St_put 55 = .ok (.getfield 19, 3) := by decide +kernel
theorem d_St_put_58 : decode b_St_put 58 = .ok (.if_icmp .le 8, 3) := by decide +kernel
theorem d_St_put_61 : decode b_St_put 61 = .ok (.aload_n 0, 1) := by decide +kernel
theorem d_St_put_62 : decode b_St_put 62 = .ok (.invokevirtual 32, 3) := by decide +kernel
theorem d_St_put_65 : decode b_St_put 65 = .ok (.pop, 1) := by decide +kernel
theorem d_St_put_66 : decode b_St_put 66 = .ok (.return_, 1) := by decide +kernel
theorem d_St_placeOf_0 : decode b_St_placeOf 0 = .ok (.iconst 0, 1) := by decide +kernel
theorem d_St_placeOf_1 : decode b_St_placeOf 1 = .ok (.istore_n 2, 1) := by decide +kernel
theorem d_St_placeOf_2 : decode b_St_placeOf 2 = .ok (.iload_n 2, 1) := by decide +kernel
theorem d_St_placeOf_3 : decode b_St_placeOf 3 = .ok (.aload_n 0, 1) := by decide +kernel
theorem d_St_placeOf_4 : decode b_St_placeOf 4 = .ok (.getfield 15, 3) := by decide +kernel
theorem d_St_placeOf_7 : decode b_St_placeOf 7 = .ok (.if_icmp .ge 21, 3) := by decide +kernel
theorem d_St_placeOf_10 : decode b_St_placeOf 10 = .ok (.aload_n 0, 1) := by decide +kernel
theorem d_St_placeOf_11 : decode b_St_placeOf 11 = .ok (.getfield 22, 3) := by decide +kernel
theorem d_St_placeOf_14 : decode b_St_placeOf 14 = .ok (.iload_n 2, 1) := by decide +kernel
theorem d_St_placeOf_15 : decode b_St_placeOf 15 = .ok (.iaload, 1) := by decide +kernel
theorem d_St_placeOf_16 : decode b_St_placeOf 16 = .ok (.iload_n 1, 1) := by decide +kernel
theorem d_St_placeOf_17 : decode b_St_placeOf 17 = .ok (.if_icmp .ne 5, 3) := by decide +kernel
theorem d_St_placeOf_20 : decode b_St_placeOf 20 = .ok (.iload_n 2, 1) := by decide +kernel
theorem d_St_placeOf_21 : decode b_St_placeOf 21 = .ok (.ireturn, 1) := by decide +kernel
theorem d_St_placeOf_22 : decode b_St_placeOf 22 = .ok (.iinc 2 1, 3) := by decide +kernel
theorem d_St_placeOf_25 : decode b_St_placeOf 25 = .ok (.goto (-23), 3) := by decide +kernel
theorem d_St_placeOf_28 : decode b_St_placeOf 28 = .ok (.bipush (-3), 2) := by decide +kernel
theorem d_St_placeOf_30 : decode b_St_placeOf 30 = .ok (.ireturn, 1) := by decide +kernel
theorem d_St_writeBackFirst_0 : decode b_St_writeBackFirst 0 = .ok (.aload_n 0, 1) := by decide +kernel
theorem d_St_writeBackFirst_1 : decode b_St_writeBackFirst 1 = .ok (.getfield 15, 3) := by decide +kernel
theorem d_St_writeBackFirst_4 : decode b_St_writeBackFirst 4 = .ok (.ifCond .ne 6, 3) := by decide +kernel
theorem d_St_writeBackFirst_7 : decode b_St_writeBackFirst 7 = .ok (.bipush (-3), 2) := by decide +kernel
theorem d_St_writeBackFirst_9 : decode b_St_writeBackFirst 9 = .ok (.ireturn, 1) := by decide +kernel
theorem d_St_writeBackFirst_10 : decode b_St_writeBackFirst 10 = .ok (.aload_n 0, 1) := by decide +kernel
theorem d_St_writeBackFirst_11 : decode b_St_writeBackFirst 11 = .ok (.getfield 22, 3) := by decide +kernel
theorem d_St_writeBackFirst_14 : decode b_St_writeBackFirst 14 = .ok (.iconst 0, 1) := by decide +kernel
theorem d_St_writeBackFirst_15 : decode b_St_writeBackFirst 15 = .ok (.iaload, 1) := by decide +kernel
theorem d_St_writeBackFirst_16 : decode b_St_writeBackFirst 16 = .ok (.istore_n 1, 1) := by decide +kernel
theorem d_St_writeBackFirst_17 : decode b_St_writeBackFirst 17 = .ok (.aload_n 0, 1) := by decide +kernel
theorem d_St_writeBackFirst_18 : decode b_St_writeBackFirst 18 = .ok (.getfield 9, 3) := by decide +kernel
theorem d_St_writeBackFirst_21 : decode b_St_writeBackFirst 21 = .ok (.iload_n 1, 1) := by decide +kernel
theorem d_St_writeBackFirst_22 : decode b_St_writeBackFirst 22 = .ok (.aload_n 0, 1) := by decide +kernel
theorem d_St_writeBackFirst_23 : decode b_St_writeBackFirst 23 = .ok (.getfield 25, 3) := by decide +kernel
theorem d_St_writeBackFirst_26 : decode b_St_writeBackFirst 26 = .ok (.iconst 0, 1) := by decide +kernel
theorem d_St_writeBackFirst_27 : decode b_St_writeBackFirst 27 = .ok (.iaload, 1) := by decide +kernel
theorem d_St_writeBackFirst_28 : decode b_St_writeBackFirst 28 = .ok (.iastore, 1) := by decide +kernel
theorem d_St_writeBackFirst_29 : decode b_St_writeBackFirst 29 = .ok (.aload_n 0, 1) := by decide +kernel
theorem d_St_writeBackFirst_30 : decode b_St_writeBackFirst 30 = .ok (.dup, 1) := by decide +kernel
theorem d_St_writeBackFirst_31 : decode b_St_writeBackFirst 31 = .ok (.getfield 15, 3) := by decide +kernel
theorem d_St_writeBackFirst_34 : decode b_St_writeBackFirst 34 = .ok (.iconst 1, 1) := by decide +kernel
theorem d_St_writeBackFirst_35 : decode b_St_writeBackFirst 35 = .ok (.isub, 1) := by decide +kernel
theorem d_St_writeBackFirst_36 : decode b_St_writeBackFirst 36 = .ok (.putfield 15, 3) := by decide +kernel
theorem d_St_writeBackFirst_39 : decode b_St_writeBackFirst 39 = .ok (.iconst 0, 1) := by decide +kernel
theorem d_St_writeBackFirst_40 : decode b_St_writeBackFirst 40 = .ok (.istore_n 2, 1) := by decide +kernel
theorem d_St_writeBackFirst_41 : decode b_St_writeBackFirst 41 = .ok (.iload_n 2, 1) := by decide +kernel
theorem d_St_writeBackFirst_42 : decode b_St_writeBackFirst 42 = .ok (.aload_n 0, 1) := by decide +kernel
theorem d_St_writeBackFirst_43 : decode b_St_writeBackFirst 43 = .ok (.getfield 15, 3) := by decide +kernel
theorem d_St_writeBackFirst_46 : decode b_St_writeBackFirst 46 = .ok (.if_icmp .ge 37, 3) := by decide +kernel
theorem d_St_writeBackFirst_49 : decode b_St_writeBackFirst 49 = .ok (.aload_n 0, 1) := by decide +kernel
theorem d_St_writeBackFirst_50 : decode b_St_writeBackFirst 50 = .ok (.getfield 22, 3) := by decide +kernel
theorem d_St_writeBackFirst_53 : decode b_St_writeBackFirst 53 = .ok (.iload_n 2, 1) := by decide +kernel
theorem d_St_writeBackFirst_54 : decode b_St_writeBackFirst 54 = .ok (.aload_n 0, 1) := by decide +kernel
theorem d_St_writeBackFirst_55 : decode b_St_writeBackFirst 55 = .ok (.getfield 22, 3) := by decide +kernel
theorem d_St_writeBackFirst_58 : decode b_St_writeBackFirst 58 = .ok (.iload_n 2, 1) := by decide +kernel
theorem d_St_writeBackFirst_59 : decode b_St_writeBackFirst 59 = .ok (.iconst 1, 1) := by decide +kernel
theorem d_St_writeBackFirst_60 : decode b_St_writeBackFirst 60 = .ok (.iadd, 1) := by decide +kernel
theorem d_St_writeBackFirst_61 : decode b_St_writeBackFirst 61 = .ok (.iaload, 1) := by decide +kernel
theorem d_St_writeBackFirst_62 : decode b_St_writeBackFirst 62 = .ok (.iastore, 1) := by decide +kernel
theorem d_St_writeBackFirst_63 : decode b_St_writeBackFirst 63 = .ok (.aload_n 0, 1) := by decide +kernel
theorem d_St_writeBackFirst_64 : decode b_St_writeBackFirst 64 = .ok (.getfield 25, 3) := by decide +kernel
theorem d_St_writeBackFirst_67 : decode b_St_writeBackFirst 67 = .ok (.iload_n 2, 1) := by decide +kernel
theorem d_St_writeBackFirst_68 : decode b_St_writeBackFirst 68 = .ok (.aload_n 0, 1) := by decide +kernel
theorem d_St_writeBackFirst_69 : decode b_St_writeBackFirst 69 = .ok (.getfield 25, 3) := by decide +kernel
theorem d_St_writeBackFirst_72 : decode b_St_writeBackFirst 72 = .ok (.iload_n 2, 1) := by decide +kernel
theorem d_St_writeBackFirst_73 : decode b_St_writeBackFirst 73 = .ok (.iconst 1, 1) := by decide +kernel
theorem d_St_writeBackFirst_74 : decode b_St_writeBackFirst 74 = .ok (.iadd, 1) := by decide +kernel
theorem d_St_writeBackFirst_75 : decode b_St_writeBackFirst 75 = .ok (.iaload, 1) := by decide +kernel
theorem d_St_writeBackFirst_76 : decode b_St_writeBackFirst 76 = .ok (.iastore, 1) := by decide +kernel
theorem d_St_writeBackFirst_77 : decode b_St_writeBackFirst 77 = .ok (.iinc 2 1, 3) := by decide +kernel
theorem d_St_writeBackFirst_80 : decode b_St_writeBackFirst 80 = .ok (.goto (-39), 3) := by decide +kernel
theorem d_St_writeBackFirst_83 : decode b_St_writeBackFirst 83 = .ok (.iload_n 1, 1) := by decide +kernel
theorem d_St_writeBackFirst_84 : decode b_St_writeBackFirst 84 = .ok (.ireturn, 1) := by decide +kernel
theorem d_St_presentInt_0 : decode b_St_presentInt 0 = .ok (.aload_n 0, 1) := by decide +kernel
theorem d_St_presentInt_1 : decode b_St_presentInt 1 = .ok (.iload_n 1, 1) := by decide +kernel
theorem d_St_presentInt_2 : decode b_St_presentInt 2 = .ok (.invokevirtual 28, 3) := by decide +kernel
theorem d_St_presentInt_5 : decode b_St_presentInt 5 = .ok (.istore_n 2, 1) := by decide +kernel
theorem d_St_presentInt_6 : decode b_St_presentInt 6 = .ok (.iload_n 2, 1) := by decide +kernel
theorem d_St_presentInt_7 : decode b_St_presentInt 7 = .ok (.bipush (-3), 2) := by decide +kernel
theorem d_St_presentInt_9 : decode b_St_presentInt 9 = .ok (.if_icmp .ne 12, 3) := by decide +kernel
theorem d_St_presentInt_12 : decode b_St_presentInt 12 = .ok (.aload_n 0, 1) := by decide +kernel
theorem d_St_presentInt_13 : decode b_St_presentInt 13 = .ok (.getfield 9, 3) := by decide +kernel
theorem d_St_presentInt_16 : decode b_St_presentInt 16 = .ok (.iload_n 1, 1) := by decide +kernel
theorem d_St_presentInt_17 : decode b_St_presentInt 17 = .ok (.iaload, 1) := by decide +kernel
theorem d_St_presentInt_18 : decode b_St_presentInt 18 = .ok (.goto 9, 3) := by decide +kernel
theorem d_St_presentInt_21 : decode b_St_presentInt 21 = .ok (.aload_n 0, 1) := by decide +kernel
theorem d_St_presentInt_22 : decode b_St_presentInt 22 = .ok (.getfield 25, 3) := by decide +kernel
theorem d_St_presentInt_25 : decode b_St_presentInt 25 = .ok (.iload_n 2, 1) := by decide +kernel
theorem d_St_presentInt_26 : decode b_St_presentInt 26 = .ok (.iaload, 1) := by decide +kernel
theorem d_St_presentInt_27 : decode b_St_presentInt 27 = .ok (.ireturn, 1) := by decide +kernel
theorem d_St_writeBackAll_0 : decode b_St_writeBackAll 0 = .ok (.aload_n 0, 1) := by decide +kernel
theorem d_St_writeBackAll_1 : decode b_St_writeBackAll 1 = .ok (.getfield 15, 3) := by decide +kernel
theorem d_St_writeBackAll_4 : decode b_St_writeBackAll 4 = .ok (.istore_n 1, 1) := by decide +kernel
theorem d_St_writeBackAll_5 : decode b_St_writeBackAll 5 = .ok (.iload_n 1, 1) := by decide +kernel
theorem d_St_writeBackAll_6 : decode b_St_writeBackAll 6 = .ok (.ifCond .le 14, 3) := by decide +kernel
theorem d_St_writeBackAll_9 : decode b_St_writeBackAll 9 = .ok (.aload_n 0, 1) := by decide +kernel
theorem d_St_writeBackAll_10 : decode b_St_writeBackAll 10 = .ok (.invokevirtual 32, 3) := by decide +kernel
theorem d_St_writeBackAll_13 : decode b_St_writeBackAll 13 = .ok (.pop, 1) := by decide +kernel
theorem d_St_writeBackAll_14 : decode b_St_writeBackAll 14 = .ok (.iinc 1 (-1), 3) := by decide +kernel
theorem d_St_writeBackAll_17 : decode b_St_writeBackAll 17 = .ok (.goto (-12), 3) := by decide +kernel
theorem d_St_writeBackAll_20 : decode b_St_writeBackAll 20 = .ok (.return_, 1) := by decide +kernel
theorem d_St_loseCache_0 : decode b_St_loseCache 0 = .ok (.aload_n 0, 1) := by decide +kernel
theorem d_St_loseCache_1 : decode b_St_loseCache 1 = .ok (.iconst 0, 1) := by decide +kernel
theorem d_St_loseCache_2 : decode b_St_loseCache 2 = .ok (.putfield 15, 3) := by decide +kernel
theorem d_St_loseCache_5 : decode b_St_loseCache 5 = .ok (.return_, 1) := by decide +kernel
theorem d_St_blockAt_0 : decode b_St_blockAt 0 = .ok (.iload_n 1, 1) := by decide +kernel
theorem d_St_blockAt_1 : decode b_St_blockAt 1 = .ok (.ifCond .lt 20, 3) := by decide +kernel
theorem d_St_blockAt_4 : decode b_St_blockAt 4 = .ok (.iload_n 1, 1) := by decide +kernel
theorem d_St_blockAt_5 : decode b_St_blockAt 5 = .ok (.aload_n 0, 1) := by decide +kernel
theorem d_St_blockAt_6 : decode b_St_blockAt 6 = .ok (.getfield 15, 3) := by decide +kernel
theorem d_St_blockAt_9 : decode b_St_blockAt 9 = .ok (.if_icmp .ge 12, 3) := by decide +kernel
theorem d_St_blockAt_12 : decode b_St_blockAt 12 = .ok (.aload_n 0, 1) := by decide +kernel
theorem d_St_blockAt_13 : decode b_St_blockAt 13 = .ok (.getfield 22, 3) := by decide +kernel
theorem d_St_blockAt_16 : decode b_St_blockAt 16 = .ok (.iload_n 1, 1) := by decide +kernel
theorem d_St_blockAt_17 : decode b_St_blockAt 17 = .ok (.iaload, 1) := by decide +kernel
theorem d_St_blockAt_18 : decode b_St_blockAt 18 = .ok (.goto 5, 3) := by decide +kernel
theorem d_St_blockAt_21 : decode b_St_blockAt 21 = .ok (.bipush (-3), 2) := by decide +kernel
theorem d_St_blockAt_23 : decode b_St_blockAt 23 = .ok (.ireturn, 1) := by decide +kernel
end
section
theorem d_Bs_init_0 : decode b_Bs_init 0 = .ok (.aload_n 0, 1) := by decide +kernel
theorem d_Bs_init_1 : decode b_Bs_init 1 = .ok (.invokespecial 3, 3) := by decide +kernel
theorem d_Bs_init_4 : decode b_Bs_init 4 = .ok (.aload_n 0, 1) := by decide +kernel
theorem d_Bs_init_5 : decode b_Bs_init 5 = .ok (.bipush 120, 2) := by decide +kernel
theorem d_Bs_init_7 : decode b_Bs_init 7 = .ok (.anewarray 9, 3) := by decide +kernel
theorem d_Bs_init_10 : decode b_Bs_init 10 = .ok (.putfield 11, 3) := by decide +kernel
theorem d_Bs_init_13 : decode b_Bs_init 13 = .ok (.aload_n 0, 1) := by decide +kernel
theorem d_Bs_init_14 : decode b_Bs_init 14 = .ok (.iconst 0, 1) := by decide +kernel
theorem d_Bs_init_15 : decode b_Bs_init 15 = .ok (.putfield 15, 3) := by decide +kernel
theorem d_Bs_init_18 : decode b_Bs_init 18 = .ok (.aload_n 0, 1) := by decide +kernel
theorem d_Bs_init_19 : decode b_Bs_init 19 = .ok (.new 19, 3) := by decide +kernel
theorem d_Bs_init_22 : decode b_Bs_init 22 = .ok (.dup, 1) := by decide +kernel
theorem d_Bs_init_23 : decode b_Bs_init 23 = .ok (.iconst 4, 1) := by decide +kernel
theorem d_Bs_init_24 : decode b_Bs_init 24 = .ok (.invokespecial 21, 3) := by decide +kernel
theorem d_Bs_init_27 : decode b_Bs_init 27 = .ok (.putfield 24, 3) := by decide +kernel
theorem d_Bs_init_30 : decode b_Bs_init 30 = .ok (.aload_n 0, 1) := by decide +kernel
theorem d_Bs_init_31 : decode b_Bs_init 31 = .ok (.new 19, 3) := by decide +kernel
theorem d_Bs_init_34 : decode b_Bs_init 34 = .ok (.dup, 1) := by decide +kernel
theorem d_Bs_init_35 : decode b_Bs_init 35 = .ok (.bipush 16, 2) := by decide +kernel
theorem d_Bs_init_37 : decode b_Bs_init 37 = .ok (.invokespecial 21, 3) := by decide +kernel
theorem d_Bs_init_40 : decode b_Bs_init 40 = .ok (.putfield 28, 3) := by decide +kernel
theorem d_Bs_init_43 : decode b_Bs_init 43 = .ok (.aload_n 0, 1) := by decide +kernel
theorem d_Bs_init_44 : decode b_Bs_init 44 = .ok (.iconst 0, 1) := by decide +kernel
theorem d_Bs_init_45 : decode b_Bs_init 45 = .ok (.putfield 31, 3) := by decide +kernel
theorem d_Bs_init_48 : decode b_Bs_init 48 = .ok (.aload_n 0, 1) := by decide +kernel
theorem d_Bs_init_49 : decode b_Bs_init 49 = .ok (.iconst 0, 1) := by decide +kernel
theorem d_Bs_init_50 : decode b_Bs_init 50 = .ok (.putfield 35, 3) := by decide +kernel
theorem d_Bs_init_53 : decode b_Bs_init 53 = .ok (.aload_n 0, 1) := by decide +kernel
theorem d_Bs_init_54 : decode b_Bs_init 54 = .ok (.iconst 0, 1) := by decide +kernel
theorem d_Bs_init_55 : decode b_Bs_init 55 = .ok (.putfield 38, 3) := by decide +kernel
theorem d_Bs_init_58 : decode b_Bs_init 58 = .ok (.aload_n 0, 1) := by decide +kernel
theorem d_Bs_init_59 : decode b_Bs_init 59 = .ok (.iconst 0, 1) := by decide +kernel
theorem d_Bs_init_60 : decode b_Bs_init 60 = .ok (.putfield 41, 3) := by decide +kernel
theorem d_Bs_init_63 : decode b_Bs_init 63 = .ok (.aload_n 0, 1) := by decide +kernel
theorem d_Bs_init_64 : decode b_Bs_init 64 = .ok (.iconst 0, 1) := by decide +kernel
theorem d_Bs_init_65 : decode b_Bs_init 65 = .ok (.putfield 44, 3) := by decide +kernel
theorem d_Bs_init_68 : decode b_Bs_init 68 = .ok (.aload_n 0, 1) := by decide +kernel
theorem d_Bs_init_69 : decode b_Bs_init 69 = .ok (.iload_n 1, 1) := by decide +kernel
theorem d_Bs_init_70 : decode b_Bs_init 70 = .ok (.iconst 1, 1) := by decide +kernel
theorem d_Bs_init_71 : decode b_Bs_init 71 = .ok (.iconst 4, 1) := by decide +kernel
theorem d_Bs_init_72 : decode b_Bs_init 72 = .ok (.invokestatic 47, 3) := by decide +kernel
theorem d_Bs_init_75 : decode b_Bs_init 75 = .ok (.putfield 51, 3) := by decide +kernel
theorem d_Bs_init_78 : decode b_Bs_init 78 = .ok (.aload_n 0, 1) := by decide +kernel
theorem d_Bs_init_79 : decode b_Bs_init 79 = .ok (.new 54, 3) := by decide +kernel
theorem d_Bs_init_82 : decode b_Bs_init 82 = .ok (.dup, 1) := by decide +kernel
theorem d_Bs_init_83 : decode b_Bs_init 83 = .ok (.iload_n 2, 1) := by decide +kernel
theorem d_Bs_init_84 : decode b_Bs_init 84 = .ok (.iconst 1, 1) := by decide +kernel
theorem d_Bs_init_85 : decode b_Bs_init 85 = .ok (.bipush 6, 2) := by decide +kernel
theorem d_Bs_init_87 : decode b_Bs_init 87 = .ok (.invokestatic 47, 3) := by decide +kernel
theorem d_Bs_init_90 : decode b_Bs_init 90 = .ok (.invokespecial 56, 3) := by decide +kernel
theorem d_Bs_init_93 : decode b_Bs_init 93 = .ok (.putfield 57, 3) := by decide +kernel
theorem d_Bs_init_96 : decode b_Bs_init 96 = .ok (.aload_n 0, 1) := by decide +kernel
theorem d_Bs_init_97 : decode b_Bs_init 97 = .ok (.invokevirtual 61, 3) := by decide +kernel
theorem d_Bs_init_100 : decode b_Bs_init 100 = .ok (.return_, 1) := by decide +kernel
theorem d_Bs_clamp_0 : decode b_Bs_clamp 0 = .ok (.iload_n 1, 1) := by decide +kernel
theorem d_Bs_clamp_1 : decode b_Bs_clamp 1 = .ok (.iload_n 2, 1) := by decide +kernel
theorem d_Bs_clamp_2 : decode b_Bs_clamp 2 = .ok (.iload_n 0, 1) := by decide +kernel
theorem d_Bs_clamp_3 : decode b_Bs_clamp 3 = .ok (.invokestatic 165, 3) := by decide +kernel
theorem d_Bs_clamp_6 : decode b_Bs_clamp 6 = .ok (.invokestatic 171, 3) := by decide +kernel
theorem d_Bs_clamp_9 : decode b_Bs_clamp 9 = .ok (.ireturn, 1) := by decide +kernel
theorem d_Bs_beginSession_0 : decode b_Bs_beginSession 0 = .ok (.aload_n 0, 1) := by decide +kernel
theorem d_Bs_beginSession_1 : decode b_Bs_beginSession 1 = .ok (.iconst 1, 1) := by decide +kernel
theorem d_Bs_beginSession_2 : decode b_Bs_beginSession 2 = .ok (.putfield 31, 3) := by decide +kernel
theorem d_Bs_beginSession_5 : decode b_Bs_beginSession 5 = .ok (.aload_n 0, 1) := by decide +kernel
theorem d_Bs_beginSession_6 : decode b_Bs_beginSession 6 = .ok (.dup, 1) := by decide +kernel
theorem d_Bs_beginSession_7 : decode b_Bs_beginSession 7 = .ok (.getfield 35, 3) := by decide +kernel
theorem d_Bs_beginSession_10 : decode b_Bs_beginSession 10 = .ok (.iconst 1, 1) := by decide +kernel
theorem d_Bs_beginSession_11 : decode b_Bs_beginSession 11 = .ok (.iadd, 1) := by decide +kernel
theorem d_Bs_beginSession_12 : decode b_Bs_beginSession 12 = .ok (.putfield 35, 3) := by decide +kernel
theorem d_Bs_beginSession_15 : decode b_Bs_beginSession 15 = .ok (.aload_n 0, 1) := by decide +kernel
theorem d_Bs_beginSession_16 : decode b_Bs_beginSession 16 = .ok (.iconst 0, 1) := by decide +kernel
theorem d_Bs_beginSession_17 : decode b_Bs_beginSession 17 = .ok (.putfield 38, 3) := by decide +kernel
theorem d_Bs_beginSession_20 : decode b_Bs_beginSession 20 = .ok (.aload_n 0, 1) := by decide +kernel
theorem d_Bs_beginSession_21 : decode b_Bs_beginSession 21 = .ok (.iconst 0, 1) := by decide +kernel
theorem d_Bs_beginSession_22 : decode b_Bs_beginSession 22 = .ok (.putfield 41, 3) := by decide +kernel
theorem d_Bs_beginSession_25 : decode b_Bs_beginSession 25 = .ok (.aload_n 0, 1) := by decide +kernel
theorem d_Bs_beginSession_26 : decode b_Bs_beginSession 26 = .ok (.aload_n 0, 1) := by decide +kernel
theorem d_Bs_beginSession_27 : decode b_Bs_beginSession 27 = .ok (.getfield 51, 3) := by decide +kernel
theorem d_Bs_beginSession_30 : decode b_Bs_beginSession 30 = .ok (.putfield 44, 3) := by decide +kernel
theorem d_Bs_beginSession_33 : decode b_Bs_beginSession 33 = .ok (.return_, 1) := by decide +kernel
theorem d_Bs_write_0 : decode b_Bs_write 0 = .ok (.iload_n 1, 1) := by decide +kernel
theorem d_Bs_write_1 : decode b_Bs_write 1 = .ok (.iload_n 2, 1) := by decide +kernel
theorem d_Bs_write_2 : decode b_Bs_write 2 = .ok (.invokestatic 64, 3) := by decide +kernel
theorem d_Bs_write_5 : decode b_Bs_write 5 = .ok (.ifCond .ne 5, 3) := by decide +kernel
theorem d_Bs_write_8 : decode b_Bs_write 8 = .ok (.iconst (-1), 1) := by decide +kernel
theorem d_Bs_write_9 : decode b_Bs_write 9 = .ok (.ireturn, 1) := by decide +kernel
theorem d_Bs_write_10 : decode b_Bs_write 10 = .ok (.aload_n 0, 1) := by decide +kernel
theorem d_Bs_write_11 : decode b_Bs_write 11 = .ok (.iconst 0, 1) := by decide +kernel
theorem d_Bs_write_12 : decode b_Bs_write 12 = .ok (.iload_n 1, 1) := by decide +kernel
theorem d_Bs_write_13 : decode b_Bs_write 13 = .ok (.iload_n 2, 1) := by decide +kernel
theorem d_Bs_write_14 : decode b_Bs_write 14 = .ok (.iload_n 3, 1) := by decide +kernel
theorem d_Bs_write_15 : decode b_Bs_write 15 = .ok (.invokevirtual 68, 3) := by decide +kernel
theorem d_Bs_write_18 : decode b_Bs_write 18 = .ok (.ireturn, 1) := by decide +kernel
theorem d_Bs_isStretch_0 : decode b_Bs_isStretch 0 = .ok (.iload_n 0, 1) := by decide +kernel
theorem d_Bs_isStretch_1 : decode b_Bs_isStretch 1 = .ok (.invokestatic 137, 3) := by decide +kernel
theorem d_Bs_isStretch_4 : decode b_Bs_isStretch 4 = .ok (.ifCond .eq 25, 3) := by decide +kernel
theorem d_Bs_isStretch_7 : decode b_Bs_isStretch 7 = .ok (.iload_n 1, 1) := by decide +kernel
theorem d_Bs_isStretch_8 : decode b_Bs_isStretch 8 = .ok (.iconst 1, 1) := by decide +kernel
theorem d_Bs_isStretch_9 : decode b_Bs_isStretch 9 = .ok (.if_icmp .lt 20, 3) := by decide +kernel
theorem d_Bs_isStretch_12 : decode b_Bs_isStretch 12 = .ok (.iload_n 1, 1) := by decide +kernel
theorem d_Bs_isStretch_13 : decode b_Bs_isStretch 13 = .ok (.iconst 3, 1) := by decide +kernel
theorem d_Bs_isStretch_14 : decode b_Bs_isStretch 14 = .ok (.if_icmp .gt 15, 3) := by decide +kernel
theorem d_Bs_isStretch_17 : decode b_Bs_isStretch 17 = .ok (.iload_n 0, 1) := by decide +kernel
theorem d_Bs_isStretch_18 : decode b_Bs_isStretch 18 = .ok (.iload_n 1, 1) := by decide +kernel
theorem d_Bs_isStretch_19 : decode b_Bs_isStretch 19 = .ok (.iadd, 1) := by decide +kernel
theorem d_Bs_isStretch_20 : decode b_Bs_isStretch 20 = .ok (.bipush 16, 2) := by decide +kernel
theorem d_Bs_isStretch_22 : decode b_Bs_isStretch 22 = .ok (.if_icmp .gt 7, 3) := by decide +kernel
theorem d_Bs_isStretch_25 : decode b_Bs_isStretch 25 = .ok (.iconst 1, 1) := by decide +kernel
theorem d_Bs_isStretch_26 : decode b_Bs_isStretch 26 = .ok (.goto 4, 3) := by decide +kernel
theorem d_Bs_isStretch_29 : decode b_Bs_isStretch 29 = .ok (.iconst 0, 1) := by decide +kernel
theorem d_Bs_isStretch_30 : decode b_Bs_isStretch 30 = .ok (.ireturn, 1) := by decide +kernel
theorem d_Bs_isBlock_0 : decode b_Bs_isBlock 0 = .ok (.iload_n 0, 1) := by decide +kernel
theorem d_Bs_isBlock_1 : decode b_Bs_isBlock 1 = .ok (.ifCond .lt 13, 3) := by decide +kernel
theorem d_Bs_isBlock_4 : decode b_Bs_isBlock 4 = .ok (.iload_n 0, 1) := by decide +kernel
theorem d_Bs_isBlock_5 : decode b_Bs_isBlock 5 = .ok (.bipush 16, 2) := by decide +kernel
theorem d_Bs_isBlock_7 : decode b_Bs_isBlock 7 = .ok (.if_icmp .ge 7, 3) := by decide +kernel
theorem d_Bs_isBlock_10 : decode b_Bs_isBlock 10 = .ok (.iconst 1, 1) := by decide +kernel
theorem d_Bs_isBlock_11 : decode b_Bs_isBlock 11 = .ok (.goto 4, 3) := by decide +kernel
theorem d_Bs_isBlock_14 : decode b_Bs_isBlock 14 = .ok (.iconst 0, 1) := by decide +kernel
theorem d_Bs_isBlock_15 : decode b_Bs_isBlock 15 = .ok (.ireturn, 1) := by decide +kernel
theorem d_Bs_addRequest_0 : decode b_Bs_addRequest 0 = .ok (.aload_n 0, 1) := by decide +kernel
theorem d_Bs_addRequest_1 : decode b_Bs_addRequest 1 = .ok (.getfield 15, 3) := by decide +kernel
theorem d_Bs_addRequest_4 : decode b_Bs_addRequest 4 = .ok (.bipush 120, 2) := by decide +kernel
theorem d_Bs_addRequest_6 : decode b_Bs_addRequest 6 = .ok (.if_icmp .lt 6, 3) := by decide +kernel
theorem d_Bs_addRequest_9 : decode b_Bs_addRequest 9 = .ok (.bipush (-2), 2) := by decide +kernel
theorem d_Bs_addRequest_11 : decode b_Bs_addRequest 11 = .ok (.ireturn, 1) := by decide +kernel
theorem d_Bs_addRequest_12 : decode b_Bs_addRequest 12 = .ok (.aload_n 0, 1) := by decide +kernel
theorem d_Bs_addRequest_13 : decode b_Bs_addRequest 13 = .ok (.getfield 15, 3) := by decide +kernel
theorem d_Bs_addRequest_16 : decode b_Bs_addRequest 16 = .ok (.istore 5, 2) := by decide +kernel
theorem d_Bs_addRequest_18 : decode b_Bs_addRequest 18 = .ok (.aload_n 0, 1) := by decide +kernel
theorem d_Bs_addRequest_19 : decode b_Bs_addRequest 19 = .ok (.getfield 11, 3) := by decide +kernel
theorem d_Bs_addRequest_22 : decode b_Bs_addRequest 22 = .ok (.iload 5, 2) := by decide +kernel
theorem d_Bs_addRequest_24 : decode b_Bs_addRequest 24 = .ok (.new 9, 3) := by decide +kernel
theorem d_Bs_addRequest_27 : decode b_Bs_addRequest 27 = .ok (.dup, 1) := by decide +kernel
theorem d_Bs_addRequest_28 : decode b_Bs_addRequest 28 = .ok (.iload_n 1, 1) := by decide +kernel
theorem d_Bs_addRequest_29 : decode b_Bs_addRequest 29 = .ok (.iload_n 2, 1) := by decide +kernel
theorem d_Bs_addRequest_30 : decode b_Bs_addRequest 30 = .ok (.iload_n 3, 1) := by decide +kernel
theorem d_Bs_addRequest_31 : decode b_Bs_addRequest 31 = .ok (.iload 4, 2) := by decide +kernel
theorem d_Bs_addRequest_33 : decode b_Bs_addRequest 33 = .ok (.invokespecial 174, 3) := by decide +kernel
theorem d_Bs_addRequest_36 : decode b_Bs_addRequest 36 = .ok (.aastore, 1) := by decide +kernel
theorem d_Bs_addRequest_37 : decode b_Bs_addRequest 37 = .ok (.aload_n 0, 1) := by decide +kernel
theorem d_Bs_addRequest_38 : decode b_Bs_addRequest 38 = .ok (.dup, 1) := by decide +kernel
theorem d_Bs_addRequest_39 : decode b_Bs_addRequest 39 = .ok (.getfield 15, 3) := by decide +kernel
theorem d_Bs_addRequest_42 : decode b_Bs_addRequest 42 = .ok (.iconst 1, 1) := by decide +kernel
theorem d_Bs_addRequest_43 : decode b_Bs_addRequest 43 = .ok (.iadd, 1) := by decide +kernel
theorem d_Bs_addRequest_44 : decode b_Bs_addRequest 44 = .ok (.putfield 15, 3) := by decide +kernel
theorem d_Bs_addRequest_47 : decode b_Bs_addRequest 47 = .ok (.iload 5, 2) := by decide +kernel
theorem d_Bs_addRequest_49 : decode b_Bs_addRequest 49 = .ok (.ireturn, 1) := by decide +kernel
theorem d_Bs_read_0 : decode b_Bs_read 0 = .ok (.iload_n 1, 1) := by decide +kernel
theorem d_Bs_read_1 : decode b_Bs_read 1 = .ok (.iload_n 2, 1) := by decide +kernel
theorem d_Bs_read_2 : decode b_Bs_read 2 = .ok (.invokestatic 64, 3) := by decide +kernel
theorem d_Bs_read_5 : decode b_Bs_read 5 = .ok (.ifCond .ne 5, 3) := by decide +kernel
theorem d_Bs_read_8 : decode b_Bs_read 8 = .ok (.iconst (-1), 1) := by decide +kernel
theorem d_Bs_read_9 : decode b_Bs_read 9 = .ok (.ireturn, 1) := by decide +kernel
theorem d_Bs_read_10 : decode b_Bs_read 10 = .ok (.aload_n 0, 1) := by decide +kernel
theorem d_Bs_read_11 : decode b_Bs_read 11 = .ok (.iconst 1, 1) := by decide +kernel
theorem d_Bs_read_12 : decode b_Bs_read 12 = .ok (.iload_n 1, 1) := by decide +kernel
theorem d_Bs_read_13 : decode b_Bs_read 13 = .ok (.iload_n 2, 1) := by decide +kernel
theorem d_Bs_read_14 : decode b_Bs_read 14 = .ok (.iconst 0, 1) := by decide +kernel
theorem d_Bs_read_15 : decode b_Bs_read 15 = .ok (.invokevirtual 68, 3) := by decide +kernel
theorem d_Bs_read_18 : decode b_Bs_read 18 = .ok (.ireturn, 1) := by decide +kernel
theorem d_Bs_sync_0 : decode b_Bs_sync 0 = .ok (.aload_n 0, 1) := by decide +kernel
theorem d_Bs_sync_1 : decode b_Bs_sync 1 = .ok (.iconst 2, 1) := by decide +kernel
theorem d_Bs_sync_2 : decode b_Bs_sync 2 = .ok (.iconst 0, 1) := by decide +kernel
theorem d_Bs_sync_3 : decode b_Bs_sync 3 = .ok (.iconst 0, 1) := by decide +kernel
theorem d_Bs_sync_4 : decode b_Bs_sync 4 = .ok (.iconst 0, 1) := by decide +kernel
theorem d_Bs_sync_5 : decode b_Bs_sync 5 = .ok (.invokevirtual 68, 3) := by decide +kernel
theorem d_Bs_sync_8 : decode b_Bs_sync 8 = .ok (.ireturn, 1) := by decide +kernel
theorem d_Bs_send_0 : decode b_Bs_send 0 = .ok (.aload_n 0, 1) := by decide +kernel
theorem d_Bs_send_1 : decode b_Bs_send 1 = .ok (.getfield 31, 3) := by decide +kernel
theorem d_Bs_send_4 : decode b_Bs_send 4 = .ok (.ifCond .ne 6, 3) := by decide +kernel
theorem d_Bs_send_7 : decode b_Bs_send 7 = .ok (.bipush (-4), 2) := by decide +kernel
theorem d_Bs_send_9 : decode b_Bs_send 9 = .ok (.ireturn, 1) := by decide +kernel
theorem d_Bs_send_10 : decode b_Bs_send 10 = .ok (.aload_n 0, 1) := by decide +kernel
theorem d_Bs_send_11 : decode b_Bs_send 11 = .ok (.invokevirtual 72, 3) := by decide +kernel
theorem d_Bs_send_14 : decode b_Bs_send 14 = .ok (.istore_n 1, 1) := by decide +kernel
theorem d_Bs_send_15 : decode b_Bs_send 15 = .ok (.iload_n 1, 1) := by decide +kernel
theorem d_Bs_send_16 : decode b_Bs_send 16 = .ok (.bipush (-3), 2) := by decide +kernel
theorem d_Bs_send_18 : decode b_Bs_send 18 = .ok (.if_icmp .ne 6, 3) := by decide +kernel
theorem d_Bs_send_21 : decode b_Bs_send 21 = .ok (.bipush (-3), 2) := by decide +kernel
theorem d_Bs_send_23 : decode b_Bs_send 23 = .ok (.ireturn, 1) := by decide +kernel
theorem d_Bs_send_24 : decode b_Bs_send 24 = .ok (.aload_n 0, 1) := by decide +kernel
theorem d_Bs_send_25 : decode b_Bs_send 25 = .ok (.getfield 38, 3) := by decide +kernel
theorem d_Bs_send_28 : decode b_Bs_send 28 = .ok (.aload_n 0, 1) := by decide +kernel
theorem d_Bs_send_29 : decode b_Bs_send 29 = .ok (.getfield 44, 3) := by decide +kernel
theorem d_Bs_send_32 : decode b_Bs_send 32 = .ok (.if_icmp .lt 6, 3) := by decide +kernel
theorem d_Bs_send_35 : decode b_Bs_send 35 = .ok (.bipush (-2), 2) := by decide +kernel
theorem d_Bs_send_37 : decode b_Bs_send 37 = .ok (.ireturn, 1) := by decide +kernel
theorem d_Bs_send_38 : decode b_Bs_send 38 = .ok (.aload_n 0, 1) := by decide +kernel
theorem d_Bs_send_39 : decode b_Bs_send 39 = .ok (.getfield 11, 3) := by decide +kernel
theorem d_Bs_send_42 : decode b_Bs_send 42 = .ok (.iload_n 1, 1) := by decide +kernel
theorem d_Bs_send_43 : decode b_Bs_send 43 = .ok (.aaload, 1) := by decide +kernel
theorem d_Bs_send_44 : decode b_Bs_send 44 = .ok (.iconst 1, 1) := by decide +kernel
theorem d_Bs_send_45 : decode b_Bs_send 45 = .ok (.putfield 76, 3) := by decide +kernel
theorem d_Bs_send_48 : decode b_Bs_send 48 = .ok (.aload_n 0, 1) := by decide +kernel
theorem d_Bs_send_49 : decode b_Bs_send 49 = .ok (.dup, 1) := by decide +kernel
theorem d_Bs_send_50 : decode b_Bs_send 50 = .ok (.getfield 38, 3) := by decide +kernel
theorem d_Bs_send_53 : decode b_Bs_send 53 = .ok (.iconst 1, 1) := by decide +kernel
theorem d_Bs_send_54 : decode b_Bs_send 54 = .ok (.iadd, 1) := by decide +kernel
theorem d_Bs_send_55 : decode b_Bs_send 55 = .ok (.putfield 38, 3) := by decide +kernel
theorem d_Bs_send_58 : decode b_Bs_send 58 = .ok (.aload_n 0, 1) := by decide +kernel
theorem d_Bs_send_59 : decode b_Bs_send 59 = .ok (.iload_n 1, 1) := by decide +kernel
theorem d_Bs_send_60 : decode b_Bs_send 60 = .ok (.iconst 0, 1) := by decide +kernel
theorem d_Bs_send_61 : decode b_Bs_send 61 = .ok (.iconst 0, 1) := by decide +kernel
theorem d_Bs_send_62 : decode b_Bs_send 62 = .ok (.invokevirtual 79, 3) := by decide +kernel
theorem d_Bs_send_65 : decode b_Bs_send 65 = .ok (.iload_n 1, 1) := by decide +kernel
theorem d_Bs_send_66 : decode b_Bs_send 66 = .ok (.ireturn, 1) := by decide +kernel
theorem d_Bs_firstOpenRequest_0 : decode b_Bs_firstOpenRequest 0 = .ok (.iconst 0, 1) := by decide +kernel
theorem d_Bs_firstOpenRequest_1 : decode b_Bs_firstOpenRequest 1 = .ok (.istore_n 1, 1) := by decide +kernel
theorem d_Bs_firstOpenRequest_2 : decode b_Bs_firstOpenRequest 2 = .ok (.iload_n 1, 1) := by decide +kernel
theorem d_Bs_firstOpenRequest_3 : decode b_Bs_firstOpenRequest 3 = .ok (.aload_n 0, 1) := by decide +kernel
theorem d_Bs_firstOpenRequest_4 : decode b_Bs_firstOpenRequest 4 = .ok (.getfield 15, 3) := by decide +kernel
theorem d_Bs_firstOpenRequest_7 : decode b_Bs_firstOpenRequest 7 = .ok (.if_icmp .ge 23, 3) := by decide +kernel
theorem d_Bs_firstOpenRequest_10 : decode b_Bs_firstOpenRequest 10 = .ok (.aload_n 0, 1) := by decide +kernel
theorem d_Bs_firstOpenRequest_11 : decode b_Bs_firstOpenRequest 11 = .ok (.getfield 11, 3) := by decide +kernel
theorem d_Bs_firstOpenRequest_14 : decode b_Bs_firstOpenRequest 14 = .ok (.iload_n 1, 1) := by decide +kernel
theorem d_Bs_firstOpenRequest_15 : decode b_Bs_firstOpenRequest 15 = .ok (.aaload, 1) := by decide +kernel
theorem d_Bs_firstOpenRequest_16 : decode b_Bs_firstOpenRequest 16 = .ok (.getfield 76, 3) := by decide +kernel
theorem d_Bs_firstOpenRequest_19 : decode b_Bs_firstOpenRequest 19 = .ok (.ifCond .ne 5, 3) := by decide +kernel
theorem d_Bs_firstOpenRequest_22 : decode b_Bs_firstOpenRequest 22 = .ok (.iload_n 1, 1) := by decide +kernel
theorem d_Bs_firstOpenRequest_23 : decode b_Bs_firstOpenRequest 23 = .ok (.ireturn, 1) := by decide +kernel
theorem d_Bs_firstOpenRequest_24 : decode b_Bs_firstOpenRequest 24 = .ok (.iinc 1 1, 3) := by decide +kernel
theorem d_Bs_firstOpenRequest_27 : decode b_Bs_firstOpenRequest 27 = .ok (.goto (-25), 3) := by decide +kernel
theorem d_Bs_firstOpenRequest_30 : decode b_Bs_firstOpenRequest 30 = .ok (.bipush (-3), 2) := by decide +kernel
theorem d_Bs_firstOpenRequest_32 : decode b_Bs_firstOpenRequest 32 = .ok (.ireturn, 1) := by decide +kernel
theorem d_Bs_sendUp_0 : decode b_Bs_sendUp 0 = .ok (.aload_n 0, 1) := by decide +kernel
theorem d_Bs_sendUp_1 : decode b_Bs_sendUp 1 = .ok (.getfield 24, 3) := by decide +kernel
theorem d_Bs_sendUp_4 : decode b_Bs_sendUp 4 = .ok (.invokevirtual 183, 3) := by decide +kernel
theorem d_Bs_sendUp_7 : decode b_Bs_sendUp 7 = .ok (.astore 4, 2) := by decide +kernel
theorem d_Bs_sendUp_9 : decode b_Bs_sendUp 9 = .ok (.aload 4, 2) := by decide +kernel
theorem d_Bs_sendUp_11 : decode b_Bs_sendUp 11 = .ok (.ifnull 13, 3) := by decide +kernel
theorem d_Bs_sendUp_14 : decode b_Bs_sendUp 14 = .ok (.aload 4, 2) := by decide +kernel
theorem d_Bs_sendUp_16 : decode b_Bs_sendUp 16 = .ok (.iload_n 1, 1) := by decide +kernel
theorem d_Bs_sendUp_17 : decode b_Bs_sendUp 17 = .ok (.iload_n 2, 1) := by decide +kernel
theorem d_Bs_sendUp_18 : decode b_Bs_sendUp 18 = .ok (.iload_n 3, 1) := by decide +kernel
theorem d_Bs_sendUp_19 : decode b_Bs_sendUp 19 = .ok (.iconst 0, 1) := by decide +kernel
theorem d_Bs_sendUp_20 : decode b_Bs_sendUp 20 = .ok (.iconst 0, 1) := by decide +kernel
theorem d_Bs_sendUp_21 : decode b_Bs_sendUp 21 = .ok (.invokevirtual 186, 3) := by decide +kernel
theorem d_Bs_sendUp_24 : decode b_Bs_sendUp 24 = .ok (.return_, 1) := by decide +kernel
theorem d_Bs_deliver_0 : decode b_Bs_deliver 0 = .ok (.aload_n 0, 1) := by decide +kernel
theorem d_Bs_deliver_1 : decode b_Bs_deliver 1 = .ok (.getfield 31, 3) := by decide +kernel
theorem d_Bs_deliver_4 : decode b_Bs_deliver 4 = .ok (.ifCond .ne 6, 3) := by decide +kernel
theorem d_Bs_deliver_7 : decode b_Bs_deliver 7 = .ok (.bipush (-4), 2) := by decide +kernel
theorem d_Bs_deliver_9 : decode b_Bs_deliver 9 = .ok (.ireturn, 1) := by decide +kernel
theorem d_Bs_deliver_10 : decode b_Bs_deliver 10 = .ok (.aload_n 0, 1) := by decide +kernel
theorem d_Bs_deliver_11 : decode b_Bs_deliver 11 = .ok (.iload_n 1, 1) := by decide +kernel
theorem d_Bs_deliver_12 : decode b_Bs_deliver 12 = .ok (.invokevirtual 83, 3) := by decide +kernel
theorem d_Bs_deliver_15 : decode b_Bs_deliver 15 = .ok (.invokevirtual 87, 3) := by decide +kernel
theorem d_Bs_deliver_18 : decode b_Bs_deliver 18 = .ok (.astore_n 2, 1) := by decide +kernel
theorem d_Bs_deliver_19 : decode b_Bs_deliver 19 = .ok (.aload_n 2, 1) := by decide +kernel
theorem d_Bs_deliver_20 : decode b_Bs_deliver 20 = .ok (.ifnonnull 6, 3) := by decide +kernel
theorem d_Bs_deliver_23 : decode b_Bs_deliver 23 = .ok (.bipush (-3), 2) := by decide +kernel
theorem d_Bs_deliver_25 : decode b_Bs_deliver 25 = .ok (.ireturn, 1) := by decide +kernel
theorem d_Bs_deliver_26 : decode b_Bs_deliver 26 = .ok (.aload_n 2, 1) := by decide +kernel
theorem d_Bs_deliver_27 : decode b_Bs_deliver 27 = .ok (.getfield 91, 3) := by decide +kernel
theorem d_Bs_deliver_30 : decode b_Bs_deliver 30 = .ok (.ifCond .eq 10, 3) := by decide +kernel
theorem d_Bs_deliver_33 : decode b_Bs_deliver 33 = .ok (.aload_n 0, 1) := by decide +kernel
theorem d_Bs_deliver_34 : decode b_Bs_deliver 34 = .ok (.invokevirtual 96, 3) := by decide +kernel
theorem d_Bs_deliver_37 : decode b_Bs_deliver 37 = .ok (.bipush (-5), 2) := by decide +kernel
theorem d_Bs_deliver_39 : decode b_Bs_deliver 39 = .ok (.ireturn, 1) := by decide +kernel
theorem d_Bs_deliver_40 : decode b_Bs_deliver 40 = .ok (.iload_n 1, 1) := by decide +kernel
theorem d_Bs_deliver_41 : decode b_Bs_deliver 41 = .ok (.ifCond .eq 11, 3) := by decide +kernel
theorem d_Bs_deliver_44 : decode b_Bs_deliver 44 = .ok (.aload_n 0, 1) := by decide +kernel
theorem d_Bs_deliver_45 : decode b_Bs_deliver 45 = .ok (.aload_n 2, 1) := by decide +kernel
theorem d_Bs_deliver_46 : decode b_Bs_deliver 46 = .ok (.invokevirtual 99, 3) := by decide +kernel
theorem d_Bs_deliver_49 : decode b_Bs_deliver 49 = .ok (.goto 8, 3) := by decide +kernel
theorem d_Bs_deliver_52 : decode b_Bs_deliver 52 = .ok (.aload_n 0, 1) := by decide +kernel
theorem d_Bs_deliver_53 : decode b_Bs_deliver 53 = .ok (.aload_n 2, 1) := by decide +kernel
theorem d_Bs_deliver_54 : decode b_Bs_deliver 54 = .ok (.invokevirtual 103, 3) := by decide +kernel
theorem d_Bs_deliver_57 : decode b_Bs_deliver 57 = .ok (.aload_n 2, 1) := by decide +kernel
theorem d_Bs_deliver_58 : decode b_Bs_deliver 58 = .ok (.getfield 106, 3) := by decide +kernel
theorem d_Bs_deliver_61 : decode b_Bs_deliver 61 = .ok (.ireturn, 1) := by decide +kernel
theorem d_Bs_lineOf_0 : decode b_Bs_lineOf 0 = .ok (.iload_n 1, 1) := by decide +kernel
theorem d_Bs_lineOf_1 : decode b_Bs_lineOf 1 = .ok (.ifCond .eq 10, 3) := by decide +kernel
theorem d_Bs_lineOf_4 : decode b_Bs_lineOf 4 = .ok (.aload_n 0, 1) := by decide +kernel
theorem d_Bs_lineOf_5 : decode b_Bs_lineOf 5 = .ok (.getfield 24, 3) := by decide +kernel
theorem d_Bs_lineOf_8 : decode b_Bs_lineOf 8 = .ok (.goto 7, 3) := by decide +kernel
theorem d_Bs_lineOf_11 : decode b_Bs_lineOf 11 = .ok (.aload_n 0, 1) := by decide +kernel
theorem d_Bs_lineOf_12 : decode b_Bs_lineOf 12 = .ok (.getfield 28, 3) := by decide +kernel
theorem d_Bs_lineOf_15 : decode b_Bs_lineOf 15 = .ok (.areturn, 1) := by decide +kernel
theorem d_Bs_breakSession_0 : decode b_Bs_breakSession 0 = .ok (.aload_n 0, 1) := by decide +kernel
theorem d_Bs_breakSession_1 : decode b_Bs_breakSession 1 = .ok (.getfield 24, 3) := by decide +kernel
theorem d_Bs_breakSession_4 : decode b_Bs_breakSession 4 = .ok (.invokevirtual 177, 3) := by decide +kernel
theorem d_Bs_breakSession_7 : decode b_Bs_breakSession 7 = .ok (.aload_n 0, 1) := by decide +kernel
theorem d_Bs_breakSession_8 : decode b_Bs_breakSession 8 = .ok (.getfield 28, 3) := by decide +kernel
theorem d_Bs_breakSession_11 : decode b_Bs_breakSession 11 = .ok (.invokevirtual 177, 3) := by decide +kernel
theorem d_Bs_breakSession_14 : decode b_Bs_breakSession 14 = .ok (.aload_n 0, 1) := by decide +kernel
theorem d_Bs_breakSession_15 : decode b_Bs_breakSession 15 = .ok (.iconst 0, 1) := by decide +kernel
theorem d_Bs_breakSession_16 : decode b_Bs_breakSession 16 = .ok (.putfield 31, 3) := by decide +kernel
theorem d_Bs_breakSession_19 : decode b_Bs_breakSession 19 = .ok (.aload_n 0, 1) := by decide +kernel
theorem d_Bs_breakSession_20 : decode b_Bs_breakSession 20 = .ok (.iconst 0, 1) := by decide +kernel
theorem d_Bs_breakSession_21 : decode b_Bs_breakSession 21 = .ok (.putfield 38, 3) := by decide +kernel
theorem d_Bs_breakSession_24 : decode b_Bs_breakSession 24 = .ok (.aload_n 0, 1) := by decide +kernel
theorem d_Bs_breakSession_25 : decode b_Bs_breakSession 25 = .ok (.iconst 0, 1) := by decide +kernel
theorem d_Bs_breakSession_26 : decode b_Bs_breakSession 26 = .ok (.putfield 41, 3) := by decide +kernel
theorem d_Bs_breakSession_29 : decode b_Bs_breakSession 29 = .ok (.aload_n 0, 1) := by decide +kernel
theorem d_Bs_breakSession_30 : decode b_Bs_breakSession 30 = .ok (.iconst 0, 1) := by decide +kernel
theorem d_Bs_breakSession_31 : decode b_Bs_breakSession 31 = .ok (.putfield 44, 3) := by decide +kernel
theorem d_Bs_breakSession_34 : decode b_Bs_breakSession 34 = .ok (.iconst 0, 1) := by decide +kernel
theorem d_Bs_breakSession_35 : decode b_Bs_breakSession 35 = .ok (.istore_n 1, 1) := by decide +kernel
theorem d_Bs_breakSession_36 : decode b_Bs_breakSession 36 = .ok (.iload_n 1, 1) := by decide +kernel
theorem d_Bs_breakSession_37 : decode b_Bs_breakSession 37 = .ok (.aload_n 0, 1) := by decide +kernel
theorem d_Bs_breakSession_38 : decode b_Bs_breakSession 38 = .ok (.getfield 15, 3) := by decide +kernel
theorem d_Bs_breakSession_41 : decode b_Bs_breakSession 41 = .ok (.if_icmp .ge 31, 3) := by decide +kernel
theorem d_Bs_breakSession_44 : decode b_Bs_breakSession 44 = .ok (.aload_n 0, 1) := by decide +kernel
theorem d_Bs_breakSession_45 : decode b_Bs_breakSession 45 = .ok (.getfield 11, 3) := by decide +kernel
theorem d_Bs_breakSession_48 : decode b_Bs_breakSession 48 = .ok (.iload_n 1, 1) := by decide +kernel
theorem d_Bs_breakSession_49 : decode b_Bs_breakSession 49 = .ok (.aaload, 1) := by decide +kernel
theorem d_Bs_breakSession_50 : decode b_Bs_breakSession 50 = .ok (.getfield 76, 3) := by decide +kernel
theorem d_Bs_breakSession_53 : decode b_Bs_breakSession 53 = .ok (.iconst 1, 1) := by decide +kernel
theorem d_Bs_breakSession_54 : decode b_Bs_breakSession 54 = .ok (.if_icmp .ne 12, 3) := by decide +kernel
theorem d_Bs_breakSession_57 : decode b_Bs_breakSession 57 = .ok (.aload_n 0, 1) := by decide +kernel
theorem d_Bs_breakSession_58 : decode b_Bs_breakSession 58 = .ok (.getfield 11, 3) := by decide +kernel
theorem d_Bs_breakSession_61 : decode b_Bs_breakSession 61 = .ok (.iload_n 1, 1) := by decide +kernel
theorem d_Bs_breakSession_62 : decode b_Bs_breakSession 62 = .ok (.aaload, 1) := by decide +kernel
theorem d_Bs_breakSession_63 : decode b_Bs_breakSession 63 = .ok (.invokevirtual 180, 3) := by decide +kernel
theorem d_Bs_breakSession_66 : decode b_Bs_breakSession 66 = .ok (.iinc 1 1, 3) := by decide +kernel
theorem d_Bs_breakSession_69 : decode b_Bs_breakSession 69 = .ok (.goto (-33), 3) := by decide +kernel
theorem d_Bs_breakSession_72 : decode b_Bs_breakSession 72 = .ok (.return_, 1) := by decide +kernel
theorem d_Bs_workAtTarget_0 : decode b_Bs_workAtTarget 0 = .ok (.aload_n 0, 1) := by decide +kernel
theorem d_Bs_workAtTarget_1 : decode b_Bs_workAtTarget 1 = .ok (.aload_n 1, 1) := by decide +kernel
theorem d_Bs_workAtTarget_2 : decode b_Bs_workAtTarget 2 = .ok (.getfield 150, 3) := by decide +kernel
theorem d_Bs_workAtTarget_5 : decode b_Bs_workAtTarget 5 = .ok (.invokevirtual 123, 3) := by decide +kernel
theorem d_Bs_workAtTarget_8 : decode b_Bs_workAtTarget 8 = .ok (.astore_n 2, 1) := by decide +kernel
theorem d_Bs_workAtTarget_9 : decode b_Bs_workAtTarget 9 = .ok (.aload_n 2, 1) := by decide +kernel
theorem d_Bs_workAtTarget_10 : decode b_Bs_workAtTarget 10 = .ok (.ifnonnull 4, 3) := by decide +kernel
theorem d_Bs_workAtTarget_13 : decode b_Bs_workAtTarget 13 = .ok (.return_, 1) := by decide +kernel
theorem d_Bs_workAtTarget_14 : decode b_Bs_workAtTarget 14 = .ok (.aload_n 2, 1) := by decide +kernel
theorem d_Bs_workAtTarget_15 : decode b_Bs_workAtTarget 15 = .ok (.getfield 127, 3) := by decide +kernel
theorem d_Bs_workAtTarget_18 : decode b_Bs_workAtTarget 18 = .ok (.ifCond .ne 31, 3) := by decide +kernel
theorem d_Bs_workAtTarget_21 : decode b_Bs_workAtTarget 21 = .ok (.aload_n 0, 1) := by decide +kernel
theorem d_Bs_workAtTarget_22 : decode b_Bs_workAtTarget 22 = .ok (.aload_n 1, 1) := by decide +kernel
theorem d_Bs_workAtTarget_23 : decode b_Bs_workAtTarget 23 = .ok (.getfield 150, 3) := by decide +kernel
theorem d_Bs_workAtTarget_26 : decode b_Bs_workAtTarget 26 = .ok (.aload_n 2, 1) := by decide +kernel
theorem d_Bs_workAtTarget_27 : decode b_Bs_workAtTarget 27 = .ok (.aload_n 1, 1) := by decide +kernel
theorem d_Bs_workAtTarget_28 : decode b_Bs_workAtTarget 28 = .ok (.getfield 106, 3) := by decide +kernel
theorem d_Bs_workAtTarget_31 : decode b_Bs_workAtTarget 31 = .ok (.iconst 1, 1) := by decide +kernel
theorem d_Bs_workAtTarget_32 : decode b_Bs_workAtTarget 32 = .ok (.if_icmp .ne 10, 3) := by decide +kernel
theorem d_Bs_workAtTarget_35 : decode b_Bs_workAtTarget 35 = .ok (.aload_n 1, 1) := by decide +kernel
theorem d_Bs_workAtTarget_36 : decode b_Bs_workAtTarget 36 = .ok (.getfield 153, 3) := by decide +kernel
theorem d_Bs_workAtTarget_39 : decode b_Bs_workAtTarget 39 = .ok (.goto 4, 3) := by decide +kernel
theorem d_Bs_workAtTarget_42 : decode b_Bs_workAtTarget 42 = .ok (.iconst 0, 1) := by decide +kernel
theorem d_Bs_workAtTarget_43 : decode b_Bs_workAtTarget 43 = .ok (.invokevirtual 190, 3) := by decide +kernel
theorem d_Bs_workAtTarget_46 : decode b_Bs_workAtTarget 46 = .ok (.goto 31, 3) := by decide +kernel
theorem d_Bs_workAtTarget_49 : decode b_Bs_workAtTarget 49 = .ok (.aload_n 2, 1) := by decide +kernel
theorem d_Bs_workAtTarget_50 : decode b_Bs_workAtTarget 50 = .ok (.getfield 127, 3) := by decide +kernel
theorem d_Bs_workAtTarget_53 : decode b_Bs_workAtTarget 53 = .ok (.iconst 1, 1) := by decide +kernel
theorem d_Bs_workAtTarget_54 : decode b_Bs_workAtTarget 54 = .ok (.if_icmp .ne 15, 3) := by decide +kernel
theorem d_Bs_workAtTarget_57 : decode b_Bs_workAtTarget 57 = .ok (.aload_n 0, 1) := by decide +kernel
theorem d_Bs_workAtTarget_58 : decode b_Bs_workAtTarget 58 = .ok (.aload_n 1, 1) := by decide +kernel
theorem d_Bs_workAtTarget_59 : decode b_Bs_workAtTarget 59 = .ok (.getfield 150, 3) := by decide +kernel
theorem d_Bs_workAtTarget_62 : decode b_Bs_workAtTarget 62 = .ok (.aload_n 2, 1) := by decide +kernel
theorem d_Bs_workAtTarget_63 : decode b_Bs_workAtTarget 63 = .ok (.invokevirtual 194, 3) := by decide +kernel
theorem d_Bs_workAtTarget_66 : decode b_Bs_workAtTarget 66 = .ok (.goto 11, 3) := by decide +kernel
theorem d_Bs_workAtTarget_69 : decode b_Bs_workAtTarget 69 = .ok (.aload_n 0, 1) := by decide +kernel
theorem d_Bs_workAtTarget_70 : decode b_Bs_workAtTarget 70 = .ok (.aload_n 1, 1) := by decide +kernel
theorem d_Bs_workAtTarget_71 : decode b_Bs_workAtTarget 71 = .ok (.getfield 150, 3) := by decide +kernel
theorem d_Bs_workAtTarget_74 : decode b_Bs_workAtTarget 74 = .ok (.invokevirtual 198, 3) := by decide +kernel
theorem d_Bs_workAtTarget_77 : decode b_Bs_workAtTarget 77 = .ok (.return_, 1) := by decide +kernel
theorem d_Bs_requestAt_0 : decode b_Bs_requestAt 0 = .ok (.iload_n 1, 1) := by decide +kernel
theorem d_Bs_requestAt_1 : decode b_Bs_requestAt 1 = .ok (.ifCond .lt 20, 3) := by decide +kernel
theorem d_Bs_requestAt_4 : decode b_Bs_requestAt 4 = .ok (.iload_n 1, 1) := by decide +kernel
theorem d_Bs_requestAt_5 : decode b_Bs_requestAt 5 = .ok (.aload_n 0, 1) := by decide +kernel
theorem d_Bs_requestAt_6 : decode b_Bs_requestAt 6 = .ok (.getfield 15, 3) := by decide +kernel
theorem d_Bs_requestAt_9 : decode b_Bs_requestAt 9 = .ok (.if_icmp .ge 12, 3) := by decide +kernel
theorem d_Bs_requestAt_12 : decode b_Bs_requestAt 12 = .ok (.aload_n 0, 1) := by decide +kernel
theorem d_Bs_requestAt_13 : decode b_Bs_requestAt 13 = .ok (.getfield 11, 3) := by decide +kernel
theorem d_Bs_requestAt_16 : decode b_Bs_requestAt 16 = .ok (.iload_n 1, 1) := by decide +kernel
theorem d_Bs_requestAt_17 : decode b_Bs_requestAt 17 = .ok (.aaload, 1) := by decide +kernel
theorem d_Bs_requestAt_18 : decode b_Bs_requestAt 18 = .ok (.goto 4, 3) := by decide +kernel
theorem d_Bs_requestAt_21 : decode b_Bs_requestAt 21 = .ok (.aconst_null, 1) := by decide +kernel
theorem d_Bs_requestAt_22 : decode b_Bs_requestAt 22 = .ok (.areturn, 1) := by decide +kernel
theorem d_Bs_workPartOfWrite_0 : decode b_Bs_workPartOfWrite 0 = .ok (.iload_n 3, 1) := by decide +kernel
theorem d_Bs_workPartOfWrite_1 : decode b_Bs_workPartOfWrite 1 = .ok (.aload_n 2, 1) := by decide +kernel
theorem d_Bs_workPartOfWrite_2 : decode b_Bs_workPartOfWrite 2 = .ok (.getfield 130, 3) := by decide +kernel
theorem d_Bs_workPartOfWrite_5 : decode b_Bs_workPartOfWrite 5 = .ok (.iconst 1, 1) := by decide +kernel
theorem d_Bs_workPartOfWrite_6 : decode b_Bs_workPartOfWrite 6 = .ok (.isub, 1) := by decide +kernel
theorem d_Bs_workPartOfWrite_7 : decode b_Bs_workPartOfWrite 7 = .ok (.if_icmp .ge 14, 3) := by decide +kernel
theorem d_Bs_workPartOfWrite_10 : decode b_Bs_workPartOfWrite 10 = .ok (.aload_n 0, 1) := by decide +kernel
theorem d_Bs_workPartOfWrite_11 : decode b_Bs_workPartOfWrite 11 = .ok (.iload_n 1, 1) := by decide +kernel
theorem d_Bs_workPartOfWrite_12 : decode b_Bs_workPartOfWrite 12 = .ok (.iconst 2, 1) := by decide +kernel
theorem d_Bs_workPartOfWrite_13 : decode b_Bs_workPartOfWrite 13 = .ok (.iload_n 3, 1) := by decide +kernel
theorem d_Bs_workPartOfWrite_14 : decode b_Bs_workPartOfWrite 14 = .ok (.iconst 1, 1) := by decide +kernel
theorem d_Bs_workPartOfWrite_15 : decode b_Bs_workPartOfWrite 15 = .ok (.iadd, 1) := by decide +kernel
theorem d_Bs_workPartOfWrite_16 : decode b_Bs_workPartOfWrite 16 = .ok (.iconst 0, 1) := by decide +kernel
theorem d_Bs_workPartOfWrite_17 : decode b_Bs_workPartOfWrite 17 = .ok (.invokevirtual 201, 3) := by decide +kernel
theorem d_Bs_workPartOfWrite_20 : decode b_Bs_workPartOfWrite 20 = .ok (.return_, 1) := by decide +kernel
theorem d_Bs_workPartOfWrite_21 : decode b_Bs_workPartOfWrite 21 = .ok (.iconst 0, 1) := by decide +kernel
theorem d_Bs_workPartOfWrite_22 : decode b_Bs_workPartOfWrite 22 = .ok (.istore 4, 2) := by decide +kernel
theorem d_Bs_workPartOfWrite_24 : decode b_Bs_workPartOfWrite 24 = .ok (.iload 4, 2) := by decide +kernel
theorem d_Bs_workPartOfWrite_26 : decode b_Bs_workPartOfWrite 26 = .ok (.aload_n 2, 1) := by decide +kernel
theorem d_Bs_workPartOfWrite_27 : decode b_Bs_workPartOfWrite 27 = .ok (.getfield 130, 3) := by decide +kernel
theorem d_Bs_workPartOfWrite_30 : decode b_Bs_workPartOfWrite 30 = .ok (.if_icmp .ge 30, 3) := by decide +kernel
theorem d_Bs_workPartOfWrite_33 : decode b_Bs_workPartOfWrite 33 = .ok (.aload_n 0, 1) := by decide +kernel
theorem d_Bs_workPartOfWrite_34 : decode b_Bs_workPartOfWrite 34 = .ok (.getfield 57, 3) := by decide +kernel
theorem d_Bs_workPartOfWrite_37 : decode b_Bs_workPartOfWrite 37 = .ok (.aload_n 2, 1) := by decide +kernel
theorem d_Bs_workPartOfWrite_38 : decode b_Bs_workPartOfWrite 38 = .ok (.getfield 204, 3) := by decide +kernel
theorem d_Bs_workPartOfWrite_41 : decode b_Bs_workPartOfWrite 41 = .ok (.iload 4, 2) := by decide +kernel
theorem d_Bs_workPartOfWrite_43 : decode b_Bs_workPartOfWrite 43 = .ok (.iadd, 1) := by decide +kernel
theorem d_Bs_workPartOfWrite_44 : decode b_Bs_workPartOfWrite 44 = .ok (.aload_n 2, 1) := by decide +kernel
end
section
theorem d_Bs_workPartOfWrite_45 : decode b_Bs_workPartOfWrite 45 = .ok (.getfield 207, 3) := by decide +kernel
theorem d_Bs_workPartOfWrite_48 : decode b_Bs_workPartOfWrite 48 = .ok (.iload 4, 2) := by decide +kernel
theorem d_Bs_workPartOfWrite_50 : decode b_Bs_workPartOfWrite 50 = .ok (.iadd, 1) := by decide +kernel
theorem d_Bs_workPartOfWrite_51 : decode b_Bs_workPartOfWrite 51 = .ok (.invokevirtual 210, 3) := by decide +kernel
theorem d_Bs_workPartOfWrite_54 : decode b_Bs_workPartOfWrite 54 = .ok (.iinc 4 1, 3) := by decide +kernel
theorem d_Bs_workPartOfWrite_57 : decode b_Bs_workPartOfWrite 57 = .ok (.goto (-33), 3) := by decide +kernel
theorem d_Bs_workPartOfWrite_60 : decode b_Bs_workPartOfWrite 60 = .ok (.aload_n 0, 1) := by decide +kernel
theorem d_Bs_workPartOfWrite_61 : decode b_Bs_workPartOfWrite 61 = .ok (.iload_n 1, 1) := by decide +kernel
theorem d_Bs_workPartOfWrite_62 : decode b_Bs_workPartOfWrite 62 = .ok (.invokevirtual 214, 3) := by decide +kernel
theorem d_Bs_workPartOfWrite_65 : decode b_Bs_workPartOfWrite 65 = .ok (.return_, 1) := by decide +kernel
theorem d_Bs_sendDown_0 : decode b_Bs_sendDown 0 = .ok (.aload_n 0, 1) := by decide +kernel
theorem d_Bs_sendDown_1 : decode b_Bs_sendDown 1 = .ok (.getfield 28, 3) := by decide +kernel
theorem d_Bs_sendDown_4 : decode b_Bs_sendDown 4 = .ok (.invokevirtual 183, 3) := by decide +kernel
theorem d_Bs_sendDown_7 : decode b_Bs_sendDown 7 = .ok (.astore 5, 2) := by decide +kernel
theorem d_Bs_sendDown_9 : decode b_Bs_sendDown 9 = .ok (.aload 5, 2) := by decide +kernel
theorem d_Bs_sendDown_11 : decode b_Bs_sendDown 11 = .ok (.ifnull 22, 3) := by decide +kernel
theorem d_Bs_sendDown_14 : decode b_Bs_sendDown 14 = .ok (.aload 5, 2) := by decide +kernel
theorem d_Bs_sendDown_16 : decode b_Bs_sendDown 16 = .ok (.iload_n 1, 1) := by decide +kernel
theorem d_Bs_sendDown_17 : decode b_Bs_sendDown 17 = .ok (.iload_n 2, 1) := by decide +kernel
theorem d_Bs_sendDown_18 : decode b_Bs_sendDown 18 = .ok (.iload_n 3, 1) := by decide +kernel
theorem d_Bs_sendDown_19 : decode b_Bs_sendDown 19 = .ok (.iload 4, 2) := by decide +kernel
theorem d_Bs_sendDown_21 : decode b_Bs_sendDown 21 = .ok (.aload_n 0, 1) := by decide +kernel
theorem d_Bs_sendDown_22 : decode b_Bs_sendDown 22 = .ok (.getfield 41, 3) := by decide +kernel
theorem d_Bs_sendDown_25 : decode b_Bs_sendDown 25 = .ok (.aload_n 0, 1) := by decide +kernel
theorem d_Bs_sendDown_26 : decode b_Bs_sendDown 26 = .ok (.getfield 51, 3) := by decide +kernel
theorem d_Bs_sendDown_29 : decode b_Bs_sendDown 29 = .ok (.iadd, 1) := by decide +kernel
theorem d_Bs_sendDown_30 : decode b_Bs_sendDown 30 = .ok (.invokevirtual 186, 3) := by decide +kernel
theorem d_Bs_sendDown_33 : decode b_Bs_sendDown 33 = .ok (.return_, 1) := by decide +kernel
theorem d_Bs_finish_0 : decode b_Bs_finish 0 = .ok (.aload_n 0, 1) := by decide +kernel
theorem d_Bs_finish_1 : decode b_Bs_finish 1 = .ok (.dup, 1) := by decide +kernel
theorem d_Bs_finish_2 : decode b_Bs_finish 2 = .ok (.getfield 41, 3) := by decide +kernel
theorem d_Bs_finish_5 : decode b_Bs_finish 5 = .ok (.iconst 1, 1) := by decide +kernel
theorem d_Bs_finish_6 : decode b_Bs_finish 6 = .ok (.iadd, 1) := by decide +kernel
theorem d_Bs_finish_7 : decode b_Bs_finish 7 = .ok (.putfield 41, 3) := by decide +kernel
theorem d_Bs_finish_10 : decode b_Bs_finish 10 = .ok (.aload_n 0, 1) := by decide +kernel
theorem d_Bs_finish_11 : decode b_Bs_finish 11 = .ok (.iload_n 1, 1) := by decide +kernel
theorem d_Bs_finish_12 : decode b_Bs_finish 12 = .ok (.iconst 4, 1) := by decide +kernel
theorem d_Bs_finish_13 : decode b_Bs_finish 13 = .ok (.iconst 0, 1) := by decide +kernel
theorem d_Bs_finish_14 : decode b_Bs_finish 14 = .ok (.iconst 0, 1) := by decide +kernel
theorem d_Bs_finish_15 : decode b_Bs_finish 15 = .ok (.invokevirtual 201, 3) := by decide +kernel
theorem d_Bs_finish_18 : decode b_Bs_finish 18 = .ok (.return_, 1) := by decide +kernel
theorem d_Bs_workRead_0 : decode b_Bs_workRead 0 = .ok (.iconst 0, 1) := by decide +kernel
theorem d_Bs_workRead_1 : decode b_Bs_workRead 1 = .ok (.istore_n 3, 1) := by decide +kernel
theorem d_Bs_workRead_2 : decode b_Bs_workRead 2 = .ok (.iload_n 3, 1) := by decide +kernel
theorem d_Bs_workRead_3 : decode b_Bs_workRead 3 = .ok (.aload_n 2, 1) := by decide +kernel
theorem d_Bs_workRead_4 : decode b_Bs_workRead 4 = .ok (.getfield 130, 3) := by decide +kernel
theorem d_Bs_workRead_7 : decode b_Bs_workRead 7 = .ok (.if_icmp .ge 29, 3) := by decide +kernel
theorem d_Bs_workRead_10 : decode b_Bs_workRead 10 = .ok (.aload_n 0, 1) := by decide +kernel
theorem d_Bs_workRead_11 : decode b_Bs_workRead 11 = .ok (.iload_n 1, 1) := by decide +kernel
theorem d_Bs_workRead_12 : decode b_Bs_workRead 12 = .ok (.iconst 3, 1) := by decide +kernel
theorem d_Bs_workRead_13 : decode b_Bs_workRead 13 = .ok (.iload_n 3, 1) := by decide +kernel
theorem d_Bs_workRead_14 : decode b_Bs_workRead 14 = .ok (.aload_n 0, 1) := by decide +kernel
theorem d_Bs_workRead_15 : decode b_Bs_workRead 15 = .ok (.getfield 57, 3) := by decide +kernel
theorem d_Bs_workRead_18 : decode b_Bs_workRead 18 = .ok (.aload_n 2, 1) := by decide +kernel
theorem d_Bs_workRead_19 : decode b_Bs_workRead 19 = .ok (.getfield 204, 3) := by decide +kernel
theorem d_Bs_workRead_22 : decode b_Bs_workRead 22 = .ok (.iload_n 3, 1) := by decide +kernel
theorem d_Bs_workRead_23 : decode b_Bs_workRead 23 = .ok (.iadd, 1) := by decide +kernel
theorem d_Bs_workRead_24 : decode b_Bs_workRead 24 = .ok (.invokevirtual 141, 3) := by decide +kernel
theorem d_Bs_workRead_27 : decode b_Bs_workRead 27 = .ok (.invokevirtual 201, 3) := by decide +kernel
theorem d_Bs_workRead_30 : decode b_Bs_workRead 30 = .ok (.iinc 3 1, 3) := by decide +kernel
theorem d_Bs_workRead_33 : decode b_Bs_workRead 33 = .ok (.goto (-31), 3) := by decide +kernel
theorem d_Bs_workRead_36 : decode b_Bs_workRead 36 = .ok (.aload_n 0, 1) := by decide +kernel
theorem d_Bs_workRead_37 : decode b_Bs_workRead 37 = .ok (.iload_n 1, 1) := by decide +kernel
theorem d_Bs_workRead_38 : decode b_Bs_workRead 38 = .ok (.invokevirtual 214, 3) := by decide +kernel
theorem d_Bs_workRead_41 : decode b_Bs_workRead 41 = .ok (.return_, 1) := by decide +kernel
theorem d_Bs_workSync_0 : decode b_Bs_workSync 0 = .ok (.aload_n 0, 1) := by decide +kernel
theorem d_Bs_workSync_1 : decode b_Bs_workSync 1 = .ok (.getfield 57, 3) := by decide +kernel
theorem d_Bs_workSync_4 : decode b_Bs_workSync 4 = .ok (.invokevirtual 217, 3) := by decide +kernel
theorem d_Bs_workSync_7 : decode b_Bs_workSync 7 = .ok (.aload_n 0, 1) := by decide +kernel
theorem d_Bs_workSync_8 : decode b_Bs_workSync 8 = .ok (.iload_n 1, 1) := by decide +kernel
theorem d_Bs_workSync_9 : decode b_Bs_workSync 9 = .ok (.invokevirtual 214, 3) := by decide +kernel
theorem d_Bs_workSync_12 : decode b_Bs_workSync 12 = .ok (.return_, 1) := by decide +kernel
theorem d_Bs_takeAtInitiator_0 : decode b_Bs_takeAtInitiator 0 = .ok (.aload_n 0, 1) := by decide +kernel
theorem d_Bs_takeAtInitiator_1 : decode b_Bs_takeAtInitiator 1 = .ok (.aload_n 0, 1) := by decide +kernel
theorem d_Bs_takeAtInitiator_2 : decode b_Bs_takeAtInitiator 2 = .ok (.getfield 44, 3) := by decide +kernel
theorem d_Bs_takeAtInitiator_5 : decode b_Bs_takeAtInitiator 5 = .ok (.aload_n 1, 1) := by decide +kernel
theorem d_Bs_takeAtInitiator_6 : decode b_Bs_takeAtInitiator 6 = .ok (.getfield 156, 3) := by decide +kernel
theorem d_Bs_takeAtInitiator_9 : decode b_Bs_takeAtInitiator 9 = .ok (.invokestatic 171, 3) := by decide +kernel
theorem d_Bs_takeAtInitiator_12 : decode b_Bs_takeAtInitiator 12 = .ok (.putfield 44, 3) := by decide +kernel
theorem d_Bs_takeAtInitiator_15 : decode b_Bs_takeAtInitiator 15 = .ok (.aload_n 0, 1) := by decide +kernel
theorem d_Bs_takeAtInitiator_16 : decode b_Bs_takeAtInitiator 16 = .ok (.aload_n 1, 1) := by decide +kernel
theorem d_Bs_takeAtInitiator_17 : decode b_Bs_takeAtInitiator 17 = .ok (.getfield 150, 3) := by decide +kernel
theorem d_Bs_takeAtInitiator_20 : decode b_Bs_takeAtInitiator 20 = .ok (.invokevirtual 123, 3) := by decide +kernel
theorem d_Bs_takeAtInitiator_23 : decode b_Bs_takeAtInitiator 23 = .ok (.astore_n 2, 1) := by decide +kernel
theorem d_Bs_takeAtInitiator_24 : decode b_Bs_takeAtInitiator 24 = .ok (.aload_n 2, 1) := by decide +kernel
theorem d_Bs_takeAtInitiator_25 : decode b_Bs_takeAtInitiator 25 = .ok (.ifnonnull 4, 3) := by decide +kernel
theorem d_Bs_takeAtInitiator_28 : decode b_Bs_takeAtInitiator 28 = .ok (.return_, 1) := by decide +kernel
theorem d_Bs_takeAtInitiator_29 : decode b_Bs_takeAtInitiator 29 = .ok (.aload_n 1, 1) := by decide +kernel
theorem d_Bs_takeAtInitiator_30 : decode b_Bs_takeAtInitiator 30 = .ok (.getfield 106, 3) := by decide +kernel
theorem d_Bs_takeAtInitiator_33 : decode b_Bs_takeAtInitiator 33 = .ok (.iconst 2, 1) := by decide +kernel
theorem d_Bs_takeAtInitiator_34 : decode b_Bs_takeAtInitiator 34 = .ok (.if_icmp .ne 19, 3) := by decide +kernel
theorem d_Bs_takeAtInitiator_37 : decode b_Bs_takeAtInitiator 37 = .ok (.aload_n 0, 1) := by decide +kernel
theorem d_Bs_takeAtInitiator_38 : decode b_Bs_takeAtInitiator 38 = .ok (.aload_n 1, 1) := by decide +kernel
theorem d_Bs_takeAtInitiator_39 : decode b_Bs_takeAtInitiator 39 = .ok (.getfield 150, 3) := by decide +kernel
theorem d_Bs_takeAtInitiator_42 : decode b_Bs_takeAtInitiator 42 = .ok (.iconst 1, 1) := by decide +kernel
theorem d_Bs_takeAtInitiator_43 : decode b_Bs_takeAtInitiator 43 = .ok (.aload_n 1, 1) := by decide +kernel
theorem d_Bs_takeAtInitiator_44 : decode b_Bs_takeAtInitiator 44 = .ok (.getfield 153, 3) := by decide +kernel
theorem d_Bs_takeAtInitiator_47 : decode b_Bs_takeAtInitiator 47 = .ok (.invokevirtual 79, 3) := by decide +kernel
theorem d_Bs_takeAtInitiator_50 : decode b_Bs_takeAtInitiator 50 = .ok (.goto 31, 3) := by decide +kernel
theorem d_Bs_takeAtInitiator_53 : decode b_Bs_takeAtInitiator 53 = .ok (.aload_n 1, 1) := by decide +kernel
theorem d_Bs_takeAtInitiator_54 : decode b_Bs_takeAtInitiator 54 = .ok (.getfield 106, 3) := by decide +kernel
theorem d_Bs_takeAtInitiator_57 : decode b_Bs_takeAtInitiator 57 = .ok (.iconst 3, 1) := by decide +kernel
theorem d_Bs_takeAtInitiator_58 : decode b_Bs_takeAtInitiator 58 = .ok (.if_icmp .ne 18, 3) := by decide +kernel
theorem d_Bs_takeAtInitiator_61 : decode b_Bs_takeAtInitiator 61 = .ok (.aload_n 2, 1) := by decide +kernel
theorem d_Bs_takeAtInitiator_62 : decode b_Bs_takeAtInitiator 62 = .ok (.aload_n 1, 1) := by decide +kernel
theorem d_Bs_takeAtInitiator_63 : decode b_Bs_takeAtInitiator 63 = .ok (.getfield 153, 3) := by decide +kernel
theorem d_Bs_takeAtInitiator_66 : decode b_Bs_takeAtInitiator 66 = .ok (.aload_n 1, 1) := by decide +kernel
theorem d_Bs_takeAtInitiator_67 : decode b_Bs_takeAtInitiator 67 = .ok (.getfield 220, 3) := by decide +kernel
theorem d_Bs_takeAtInitiator_70 : decode b_Bs_takeAtInitiator 70 = .ok (.invokevirtual 221, 3) := by decide +kernel
theorem d_Bs_takeAtInitiator_73 : decode b_Bs_takeAtInitiator 73 = .ok (.goto 8, 3) := by decide +kernel
theorem d_Bs_takeAtInitiator_76 : decode b_Bs_takeAtInitiator 76 = .ok (.aload_n 2, 1) := by decide +kernel
theorem d_Bs_takeAtInitiator_77 : decode b_Bs_takeAtInitiator 77 = .ok (.iconst 2, 1) := by decide +kernel
theorem d_Bs_takeAtInitiator_78 : decode b_Bs_takeAtInitiator 78 = .ok (.putfield 76, 3) := by decide +kernel
theorem d_Bs_takeAtInitiator_81 : decode b_Bs_takeAtInitiator 81 = .ok (.return_, 1) := by decide +kernel
theorem d_Bs_damage_0 : decode b_Bs_damage 0 = .ok (.aload_n 0, 1) := by decide +kernel
theorem d_Bs_damage_1 : decode b_Bs_damage 1 = .ok (.iload_n 1, 1) := by decide +kernel
theorem d_Bs_damage_2 : decode b_Bs_damage 2 = .ok (.invokevirtual 83, 3) := by decide +kernel
theorem d_Bs_damage_5 : decode b_Bs_damage 5 = .ok (.iload_n 2, 1) := by decide +kernel
theorem d_Bs_damage_6 : decode b_Bs_damage 6 = .ok (.invokevirtual 109, 3) := by decide +kernel
theorem d_Bs_damage_9 : decode b_Bs_damage 9 = .ok (.astore_n 3, 1) := by decide +kernel
theorem d_Bs_damage_10 : decode b_Bs_damage 10 = .ok (.aload_n 3, 1) := by decide +kernel
theorem d_Bs_damage_11 : decode b_Bs_damage 11 = .ok (.ifnonnull 6, 3) := by decide +kernel
theorem d_Bs_damage_14 : decode b_Bs_damage 14 = .ok (.bipush (-3), 2) := by decide +kernel
theorem d_Bs_damage_16 : decode b_Bs_damage 16 = .ok (.ireturn, 1) := by decide +kernel
theorem d_Bs_damage_17 : decode b_Bs_damage 17 = .ok (.aload_n 3, 1) := by decide +kernel
theorem d_Bs_damage_18 : decode b_Bs_damage 18 = .ok (.iconst 1, 1) := by decide +kernel
theorem d_Bs_damage_19 : decode b_Bs_damage 19 = .ok (.putfield 91, 3) := by decide +kernel
theorem d_Bs_damage_22 : decode b_Bs_damage 22 = .ok (.iconst 0, 1) := by decide +kernel
theorem d_Bs_damage_23 : decode b_Bs_damage 23 = .ok (.ireturn, 1) := by decide +kernel
theorem d_Bs_drop_0 : decode b_Bs_drop 0 = .ok (.aload_n 0, 1) := by decide +kernel
theorem d_Bs_drop_1 : decode b_Bs_drop 1 = .ok (.getfield 31, 3) := by decide +kernel
theorem d_Bs_drop_4 : decode b_Bs_drop 4 = .ok (.ifCond .ne 6, 3) := by decide +kernel
theorem d_Bs_drop_7 : decode b_Bs_drop 7 = .ok (.bipush (-4), 2) := by decide +kernel
theorem d_Bs_drop_9 : decode b_Bs_drop 9 = .ok (.ireturn, 1) := by decide +kernel
theorem d_Bs_drop_10 : decode b_Bs_drop 10 = .ok (.aload_n 0, 1) := by decide +kernel
theorem d_Bs_drop_11 : decode b_Bs_drop 11 = .ok (.invokevirtual 96, 3) := by decide +kernel
theorem d_Bs_drop_14 : decode b_Bs_drop 14 = .ok (.iconst 0, 1) := by decide +kernel
theorem d_Bs_drop_15 : decode b_Bs_drop 15 = .ok (.ireturn, 1) := by decide +kernel
theorem d_Bs_crash_0 : decode b_Bs_crash 0 = .ok (.aload_n 0, 1) := by decide +kernel
theorem d_Bs_crash_1 : decode b_Bs_crash 1 = .ok (.getfield 31, 3) := by decide +kernel
theorem d_Bs_crash_4 : decode b_Bs_crash 4 = .ok (.ifCond .eq 7, 3) := by decide +kernel
theorem d_Bs_crash_7 : decode b_Bs_crash 7 = .ok (.aload_n 0, 1) := by decide +kernel
theorem d_Bs_crash_8 : decode b_Bs_crash 8 = .ok (.invokevirtual 96, 3) := by decide +kernel
theorem d_Bs_crash_11 : decode b_Bs_crash 11 = .ok (.aload_n 0, 1) := by decide +kernel
theorem d_Bs_crash_12 : decode b_Bs_crash 12 = .ok (.getfield 57, 3) := by decide +kernel
theorem d_Bs_crash_15 : decode b_Bs_crash 15 = .ok (.invokevirtual 113, 3) := by decide +kernel
theorem d_Bs_crash_18 : decode b_Bs_crash 18 = .ok (.iconst 0, 1) := by decide +kernel
theorem d_Bs_crash_19 : decode b_Bs_crash 19 = .ok (.ireturn, 1) := by decide +kernel
theorem d_Bs_login_0 : decode b_Bs_login 0 = .ok (.aload_n 0, 1) := by decide +kernel
theorem d_Bs_login_1 : decode b_Bs_login 1 = .ok (.getfield 31, 3) := by decide +kernel
theorem d_Bs_login_4 : decode b_Bs_login 4 = .ok (.ifCond .eq 5, 3) := by decide +kernel
theorem d_Bs_login_7 : decode b_Bs_login 7 = .ok (.iconst (-1), 1) := by decide +kernel
theorem d_Bs_login_8 : decode b_Bs_login 8 = .ok (.ireturn, 1) := by decide +kernel
theorem d_Bs_login_9 : decode b_Bs_login 9 = .ok (.aload_n 0, 1) := by decide +kernel
theorem d_Bs_login_10 : decode b_Bs_login 10 = .ok (.invokevirtual 61, 3) := by decide +kernel
theorem d_Bs_login_13 : decode b_Bs_login 13 = .ok (.aload_n 0, 1) := by decide +kernel
theorem d_Bs_login_14 : decode b_Bs_login 14 = .ok (.iconst 0, 1) := by decide +kernel
theorem d_Bs_login_15 : decode b_Bs_login 15 = .ok (.invokevirtual 116, 3) := by decide +kernel
theorem d_Bs_login_18 : decode b_Bs_login 18 = .ok (.ireturn, 1) := by decide +kernel
theorem d_Bs_requestsIn_0 : decode b_Bs_requestsIn 0 = .ok (.iconst 0, 1) := by decide +kernel
theorem d_Bs_requestsIn_1 : decode b_Bs_requestsIn 1 = .ok (.istore_n 2, 1) := by decide +kernel
theorem d_Bs_requestsIn_2 : decode b_Bs_requestsIn 2 = .ok (.iconst 0, 1) := by decide +kernel
theorem d_Bs_requestsIn_3 : decode b_Bs_requestsIn 3 = .ok (.istore_n 3, 1) := by decide +kernel
theorem d_Bs_requestsIn_4 : decode b_Bs_requestsIn 4 = .ok (.iload_n 3, 1) := by decide +kernel
theorem d_Bs_requestsIn_5 : decode b_Bs_requestsIn 5 = .ok (.aload_n 0, 1) := by decide +kernel
theorem d_Bs_requestsIn_6 : decode b_Bs_requestsIn 6 = .ok (.getfield 15, 3) := by decide +kernel
theorem d_Bs_requestsIn_9 : decode b_Bs_requestsIn 9 = .ok (.if_icmp .ge 25, 3) := by decide +kernel
theorem d_Bs_requestsIn_12 : decode b_Bs_requestsIn 12 = .ok (.aload_n 0, 1) := by decide +kernel
theorem d_Bs_requestsIn_13 : decode b_Bs_requestsIn 13 = .ok (.getfield 11, 3) := by decide +kernel
theorem d_Bs_requestsIn_16 : decode b_Bs_requestsIn 16 = .ok (.iload_n 3, 1) := by decide +kernel
theorem d_Bs_requestsIn_17 : decode b_Bs_requestsIn 17 = .ok (.aaload, 1) := by decide +kernel
theorem d_Bs_requestsIn_18 : decode b_Bs_requestsIn 18 = .ok (.getfield 76, 3) := by decide +kernel
theorem d_Bs_requestsIn_21 : decode b_Bs_requestsIn 21 = .ok (.iload_n 1, 1) := by decide +kernel
theorem d_Bs_requestsIn_22 : decode b_Bs_requestsIn 22 = .ok (.if_icmp .ne 6, 3) := by decide +kernel
theorem d_Bs_requestsIn_25 : decode b_Bs_requestsIn 25 = .ok (.iinc 2 1, 3) := by decide +kernel
theorem d_Bs_requestsIn_28 : decode b_Bs_requestsIn 28 = .ok (.iinc 3 1, 3) := by decide +kernel
theorem d_Bs_requestsIn_31 : decode b_Bs_requestsIn 31 = .ok (.goto (-27), 3) := by decide +kernel
theorem d_Bs_requestsIn_34 : decode b_Bs_requestsIn 34 = .ok (.iload_n 2, 1) := by decide +kernel
theorem d_Bs_requestsIn_35 : decode b_Bs_requestsIn 35 = .ok (.ireturn, 1) := by decide +kernel
theorem d_Bs_flush_0 : decode b_Bs_flush 0 = .ok (.aload_n 0, 1) := by decide +kernel
theorem d_Bs_flush_1 : decode b_Bs_flush 1 = .ok (.getfield 57, 3) := by decide +kernel
theorem d_Bs_flush_4 : decode b_Bs_flush 4 = .ok (.invokevirtual 120, 3) := by decide +kernel
theorem d_Bs_flush_7 : decode b_Bs_flush 7 = .ok (.ireturn, 1) := by decide +kernel
theorem d_Bs_state_0 : decode b_Bs_state 0 = .ok (.aload_n 0, 1) := by decide +kernel
theorem d_Bs_state_1 : decode b_Bs_state 1 = .ok (.iload_n 1, 1) := by decide +kernel
theorem d_Bs_state_2 : decode b_Bs_state 2 = .ok (.invokevirtual 123, 3) := by decide +kernel
theorem d_Bs_state_5 : decode b_Bs_state 5 = .ok (.astore_n 2, 1) := by decide +kernel
theorem d_Bs_state_6 : decode b_Bs_state 6 = .ok (.aload_n 2, 1) := by decide +kernel
theorem d_Bs_state_7 : decode b_Bs_state 7 = .ok (.ifnonnull 7, 3) := by decide +kernel
theorem d_Bs_state_10 : decode b_Bs_state 10 = .ok (.iconst (-1), 1) := by decide +kernel
theorem d_Bs_state_11 : decode b_Bs_state 11 = .ok (.goto 7, 3) := by decide +kernel
theorem d_Bs_state_14 : decode b_Bs_state 14 = .ok (.aload_n 2, 1) := by decide +kernel
theorem d_Bs_state_15 : decode b_Bs_state 15 = .ok (.getfield 76, 3) := by decide +kernel
theorem d_Bs_state_18 : decode b_Bs_state 18 = .ok (.ireturn, 1) := by decide +kernel
theorem d_Bs_result_0 : decode b_Bs_result 0 = .ok (.aload_n 0, 1) := by decide +kernel
theorem d_Bs_result_1 : decode b_Bs_result 1 = .ok (.iload_n 1, 1) := by decide +kernel
theorem d_Bs_result_2 : decode b_Bs_result 2 = .ok (.invokevirtual 123, 3) := by decide +kernel
theorem d_Bs_result_5 : decode b_Bs_result 5 = .ok (.astore_n 3, 1) := by decide +kernel
theorem d_Bs_result_6 : decode b_Bs_result 6 = .ok (.aload_n 3, 1) := by decide +kernel
theorem d_Bs_result_7 : decode b_Bs_result 7 = .ok (.ifnull 19, 3) := by decide +kernel
theorem d_Bs_result_10 : decode b_Bs_result 10 = .ok (.aload_n 3, 1) := by decide +kernel
theorem d_Bs_result_11 : decode b_Bs_result 11 = .ok (.getfield 127, 3) := by decide +kernel
theorem d_Bs_result_14 : decode b_Bs_result 14 = .ok (.iconst 1, 1) := by decide +kernel
theorem d_Bs_result_15 : decode b_Bs_result 15 = .ok (.if_icmp .ne 11, 3) := by decide +kernel
theorem d_Bs_result_18 : decode b_Bs_result 18 = .ok (.aload_n 3, 1) := by decide +kernel
theorem d_Bs_result_19 : decode b_Bs_result 19 = .ok (.getfield 76, 3) := by decide +kernel
theorem d_Bs_result_22 : decode b_Bs_result 22 = .ok (.iconst 2, 1) := by decide +kernel
theorem d_Bs_result_23 : decode b_Bs_result 23 = .ok (.if_icmp .eq 7, 3) := by decide +kernel
theorem d_Bs_result_26 : decode b_Bs_result 26 = .ok (.ldc2_w 128, 3) := by decide +kernel
theorem d_Bs_result_29 : decode b_Bs_result 29 = .ok (.lreturn, 1) := by decide +kernel
theorem d_Bs_result_30 : decode b_Bs_result 30 = .ok (.iload_n 2, 1) := by decide +kernel
theorem d_Bs_result_31 : decode b_Bs_result 31 = .ok (.ifCond .lt 11, 3) := by decide +kernel
theorem d_Bs_result_34 : decode b_Bs_result 34 = .ok (.iload_n 2, 1) := by decide +kernel
theorem d_Bs_result_35 : decode b_Bs_result 35 = .ok (.aload_n 3, 1) := by decide +kernel
theorem d_Bs_result_36 : decode b_Bs_result 36 = .ok (.getfield 130, 3) := by decide +kernel
theorem d_Bs_result_39 : decode b_Bs_result 39 = .ok (.if_icmp .lt 7, 3) := by decide +kernel
theorem d_Bs_result_42 : decode b_Bs_result 42 = .ok (.ldc2_w 128, 3) := by decide +kernel
theorem d_Bs_result_45 : decode b_Bs_result 45 = .ok (.lreturn, 1) := by decide +kernel
theorem d_Bs_result_46 : decode b_Bs_result 46 = .ok (.aload_n 3, 1) := by decide +kernel
theorem d_Bs_result_47 : decode b_Bs_result 47 = .ok (.getfield 133, 3) := by decide +kernel
theorem d_Bs_result_50 : decode b_Bs_result 50 = .ok (.iload_n 2, 1) := by decide +kernel
theorem d_Bs_result_51 : decode b_Bs_result 51 = .ok (.iaload, 1) := by decide +kernel
theorem d_Bs_result_52 : decode b_Bs_result 52 = .ok (.i2l, 1) := by decide +kernel
theorem d_Bs_result_53 : decode b_Bs_result 53 = .ok (.lreturn, 1) := by decide +kernel
theorem d_Bs_present_0 : decode b_Bs_present 0 = .ok (.iload_n 1, 1) := by decide +kernel
theorem d_Bs_present_1 : decode b_Bs_present 1 = .ok (.invokestatic 137, 3) := by decide +kernel
theorem d_Bs_present_4 : decode b_Bs_present 4 = .ok (.ifCond .eq 15, 3) := by decide +kernel
theorem d_Bs_present_7 : decode b_Bs_present 7 = .ok (.aload_n 0, 1) := by decide +kernel
theorem d_Bs_present_8 : decode b_Bs_present 8 = .ok (.getfield 57, 3) := by decide +kernel
theorem d_Bs_present_11 : decode b_Bs_present 11 = .ok (.iload_n 1, 1) := by decide +kernel
theorem d_Bs_present_12 : decode b_Bs_present 12 = .ok (.invokevirtual 141, 3) := by decide +kernel
theorem d_Bs_present_15 : decode b_Bs_present 15 = .ok (.i2l, 1) := by decide +kernel
theorem d_Bs_present_16 : decode b_Bs_present 16 = .ok (.goto 6, 3) := by decide +kernel
theorem d_Bs_present_19 : decode b_Bs_present 19 = .ok (.ldc2_w 128, 3) := by decide +kernel
theorem d_Bs_present_22 : decode b_Bs_present 22 = .ok (.lreturn, 1) := by decide +kernel
theorem d_Bs_disk_0 : decode b_Bs_disk 0 = .ok (.iload_n 1, 1) := by decide +kernel
theorem d_Bs_disk_1 : decode b_Bs_disk 1 = .ok (.invokestatic 137, 3) := by decide +kernel
theorem d_Bs_disk_4 : decode b_Bs_disk 4 = .ok (.ifCond .eq 16, 3) := by decide +kernel
theorem d_Bs_disk_7 : decode b_Bs_disk 7 = .ok (.aload_n 0, 1) := by decide +kernel
theorem d_Bs_disk_8 : decode b_Bs_disk 8 = .ok (.getfield 57, 3) := by decide +kernel
theorem d_Bs_disk_11 : decode b_Bs_disk 11 = .ok (.getfield 144, 3) := by decide +kernel
theorem d_Bs_disk_14 : decode b_Bs_disk 14 = .ok (.iload_n 1, 1) := by decide +kernel
theorem d_Bs_disk_15 : decode b_Bs_disk 15 = .ok (.iaload, 1) := by decide +kernel
theorem d_Bs_disk_16 : decode b_Bs_disk 16 = .ok (.i2l, 1) := by decide +kernel
theorem d_Bs_disk_17 : decode b_Bs_disk 17 = .ok (.goto 6, 3) := by decide +kernel
theorem d_Bs_disk_20 : decode b_Bs_disk 20 = .ok (.ldc2_w 128, 3) := by decide +kernel
theorem d_Bs_disk_23 : decode b_Bs_disk 23 = .ok (.lreturn, 1) := by decide +kernel
theorem d_Bs_cached_0 : decode b_Bs_cached 0 = .ok (.aload_n 0, 1) := by decide +kernel
theorem d_Bs_cached_1 : decode b_Bs_cached 1 = .ok (.getfield 57, 3) := by decide +kernel
theorem d_Bs_cached_4 : decode b_Bs_cached 4 = .ok (.iload_n 1, 1) := by decide +kernel
theorem d_Bs_cached_5 : decode b_Bs_cached 5 = .ok (.invokevirtual 147, 3) := by decide +kernel
theorem d_Bs_cached_8 : decode b_Bs_cached 8 = .ok (.ireturn, 1) := by decide +kernel
theorem d_Bs_message_0 : decode b_Bs_message 0 = .ok (.aload_n 0, 1) := by decide +kernel
theorem d_Bs_message_1 : decode b_Bs_message 1 = .ok (.iload_n 1, 1) := by decide +kernel
theorem d_Bs_message_2 : decode b_Bs_message 2 = .ok (.invokevirtual 83, 3) := by decide +kernel
theorem d_Bs_message_5 : decode b_Bs_message 5 = .ok (.iload_n 2, 1) := by decide +kernel
theorem d_Bs_message_6 : decode b_Bs_message 6 = .ok (.invokevirtual 109, 3) := by decide +kernel
theorem d_Bs_message_9 : decode b_Bs_message 9 = .ok (.astore 4, 2) := by decide +kernel
theorem d_Bs_message_11 : decode b_Bs_message 11 = .ok (.aload 4, 2) := by decide +kernel
theorem d_Bs_message_13 : decode b_Bs_message 13 = .ok (.ifnonnull 5, 3) := by decide +kernel
theorem d_Bs_message_16 : decode b_Bs_message 16 = .ok (.iconst (-1), 1) := by decide +kernel
theorem d_Bs_message_17 : decode b_Bs_message 17 = .ok (.ireturn, 1) := by decide +kernel
theorem d_Bs_message_18 : decode b_Bs_message 18 = .ok (.iload_n 3, 1) := by decide +kernel
theorem d_Bs_message_19 : decode b_Bs_message 19 = .ok (.tableswitch 71 0 4 #[33, 39, 45, 51, 57], 33) := by decide +kernel
theorem d_Bs_message_52 : decode b_Bs_message 52 = .ok (.aload 4, 2) := by decide +kernel
theorem d_Bs_message_54 : decode b_Bs_message 54 = .ok (.getfield 150, 3) := by decide +kernel
theorem d_Bs_message_57 : decode b_Bs_message 57 = .ok (.ireturn, 1) := by decide +kernel
theorem d_Bs_message_58 : decode b_Bs_message 58 = .ok (.aload 4, 2) := by decide +kernel
theorem d_Bs_message_60 : decode b_Bs_message 60 = .ok (.getfield 106, 3) := by decide +kernel
theorem d_Bs_message_63 : decode b_Bs_message 63 = .ok (.ireturn, 1) := by decide +kernel
theorem d_Bs_message_64 : decode b_Bs_message 64 = .ok (.aload 4, 2) := by decide +kernel
theorem d_Bs_message_66 : decode b_Bs_message 66 = .ok (.getfield 153, 3) := by decide +kernel
theorem d_Bs_message_69 : decode b_Bs_message 69 = .ok (.ireturn, 1) := by decide +kernel
theorem d_Bs_message_70 : decode b_Bs_message 70 = .ok (.aload 4, 2) := by decide +kernel
theorem d_Bs_message_72 : decode b_Bs_message 72 = .ok (.getfield 156, 3) := by decide +kernel
theorem d_Bs_message_75 : decode b_Bs_message 75 = .ok (.ireturn, 1) := by decide +kernel
theorem d_Bs_message_76 : decode b_Bs_message 76 = .ok (.aload 4, 2) := by decide +kernel
theorem d_Bs_message_78 : decode b_Bs_message 78 = .ok (.getfield 91, 3) := by decide +kernel
theorem d_Bs_message_81 : decode b_Bs_message 81 = .ok (.ifCond .eq 7, 3) := by decide +kernel
theorem d_Bs_message_84 : decode b_Bs_message 84 = .ok (.iconst 1, 1) := by decide +kernel
theorem d_Bs_message_85 : decode b_Bs_message 85 = .ok (.goto 4, 3) := by decide +kernel
theorem d_Bs_message_88 : decode b_Bs_message 88 = .ok (.iconst 0, 1) := by decide +kernel
theorem d_Bs_message_89 : decode b_Bs_message 89 = .ok (.ireturn, 1) := by decide +kernel
theorem d_Bs_message_90 : decode b_Bs_message 90 = .ok (.iconst (-1), 1) := by decide +kernel
theorem d_Bs_message_91 : decode b_Bs_message 91 = .ok (.ireturn, 1) := by decide +kernel
theorem d_Bs_waiting_0 : decode b_Bs_waiting 0 = .ok (.aload_n 0, 1) := by decide +kernel
theorem d_Bs_waiting_1 : decode b_Bs_waiting 1 = .ok (.iload_n 1, 1) := by decide +kernel
theorem d_Bs_waiting_2 : decode b_Bs_waiting 2 = .ok (.invokevirtual 83, 3) := by decide +kernel
theorem d_Bs_waiting_5 : decode b_Bs_waiting 5 = .ok (.getfield 159, 3) := by decide +kernel
theorem d_Bs_waiting_8 : decode b_Bs_waiting 8 = .ok (.ireturn, 1) := by decide +kernel
theorem d_Bs_count_0 : decode b_Bs_count 0 = .ok (.iload_n 1, 1) := by decide +kernel
theorem d_Bs_count_1 : decode b_Bs_count 1 = .ok (.tableswitch 102 0 8 #[51, 56, 62, 68, 74, 82, 87, 92, 97], 51) := by decide +kernel
theorem d_Bs_count_52 : decode b_Bs_count 52 = .ok (.aload_n 0, 1) := by decide +kernel
theorem d_Bs_count_53 : decode b_Bs_count 53 = .ok (.getfield 15, 3) := by decide +kernel
theorem d_Bs_count_56 : decode b_Bs_count 56 = .ok (.ireturn, 1) := by decide +kernel
theorem d_Bs_count_57 : decode b_Bs_count 57 = .ok (.aload_n 0, 1) := by decide +kernel
theorem d_Bs_count_58 : decode b_Bs_count 58 = .ok (.iconst 0, 1) := by decide +kernel
theorem d_Bs_count_59 : decode b_Bs_count 59 = .ok (.invokevirtual 116, 3) := by decide +kernel
theorem d_Bs_count_62 : decode b_Bs_count 62 = .ok (.ireturn, 1) := by decide +kernel
theorem d_Bs_count_63 : decode b_Bs_count 63 = .ok (.aload_n 0, 1) := by decide +kernel
theorem d_Bs_count_64 : decode b_Bs_count 64 = .ok (.iconst 1, 1) := by decide +kernel
theorem d_Bs_count_65 : decode b_Bs_count 65 = .ok (.invokevirtual 116, 3) := by decide +kernel
theorem d_Bs_count_68 : decode b_Bs_count 68 = .ok (.ireturn, 1) := by decide +kernel
theorem d_Bs_count_69 : decode b_Bs_count 69 = .ok (.aload_n 0, 1) := by decide +kernel
theorem d_Bs_count_70 : decode b_Bs_count 70 = .ok (.iconst 2, 1) := by decide +kernel
theorem d_Bs_count_71 : decode b_Bs_count 71 = .ok (.invokevirtual 116, 3) := by decide +kernel
theorem d_Bs_count_74 : decode b_Bs_count 74 = .ok (.ireturn, 1) := by decide +kernel
theorem d_Bs_count_75 : decode b_Bs_count 75 = .ok (.aload_n 0, 1) := by decide +kernel
theorem d_Bs_count_76 : decode b_Bs_count 76 = .ok (.getfield 57, 3) := by decide +kernel
theorem d_Bs_count_79 : decode b_Bs_count 79 = .ok (.getfield 162, 3) := by decide +kernel
theorem d_Bs_count_82 : decode b_Bs_count 82 = .ok (.ireturn, 1) := by decide +kernel
theorem d_Bs_count_83 : decode b_Bs_count 83 = .ok (.aload_n 0, 1) := by decide +kernel
theorem d_Bs_count_84 : decode b_Bs_count 84 = .ok (.getfield 38, 3) := by decide +kernel
theorem d_Bs_count_87 : decode b_Bs_count 87 = .ok (.ireturn, 1) := by decide +kernel
theorem d_Bs_count_88 : decode b_Bs_count 88 = .ok (.aload_n 0, 1) := by decide +kernel
theorem d_Bs_count_89 : decode b_Bs_count 89 = .ok (.getfield 41, 3) := by decide +kernel
theorem d_Bs_count_92 : decode b_Bs_count 92 = .ok (.ireturn, 1) := by decide +kernel
theorem d_Bs_count_93 : decode b_Bs_count 93 = .ok (.aload_n 0, 1) := by decide +kernel
theorem d_Bs_count_94 : decode b_Bs_count 94 = .ok (.getfield 44, 3) := by decide +kernel
theorem d_Bs_count_97 : decode b_Bs_count 97 = .ok (.ireturn, 1) := by decide +kernel
theorem d_Bs_count_98 : decode b_Bs_count 98 = .ok (.aload_n 0, 1) := by decide +kernel
theorem d_Bs_count_99 : decode b_Bs_count 99 = .ok (.getfield 35, 3) := by decide +kernel
theorem d_Bs_count_102 : decode b_Bs_count 102 = .ok (.ireturn, 1) := by decide +kernel
theorem d_Bs_count_103 : decode b_Bs_count 103 = .ok (.iconst (-1), 1) := by decide +kernel
theorem d_Bs_count_104 : decode b_Bs_count 104 = .ok (.ireturn, 1) := by decide +kernel
end
section
theorem d_Md_init_0 : decode b_Md_init 0 = .ok (.aload_n 0, 1) := by decide +kernel
theorem d_Md_init_1 : decode b_Md_init 1 = .ok (.invokespecial 1, 3) := by decide +kernel
theorem d_Md_init_4 : decode b_Md_init 4 = .ok (.aload_n 0, 1) := by decide +kernel
theorem d_Md_init_5 : decode b_Md_init 5 = .ok (.bipush 16, 2) := by decide +kernel
theorem d_Md_init_7 : decode b_Md_init 7 = .ok (.newarray .int, 2) := by decide +kernel
theorem d_Md_init_9 : decode b_Md_init 9 = .ok (.putfield 7, 3) := by decide +kernel
theorem d_Md_init_12 : decode b_Md_init 12 = .ok (.aload_n 0, 1) := by decide +kernel
theorem d_Md_init_13 : decode b_Md_init 13 = .ok (.bipush 16, 2) := by decide +kernel
theorem d_Md_init_15 : decode b_Md_init 15 = .ok (.newarray .int, 2) := by decide +kernel
theorem d_Md_init_17 : decode b_Md_init 17 = .ok (.putfield 13, 3) := by decide +kernel
theorem d_Md_init_20 : decode b_Md_init 20 = .ok (.aload_n 0, 1) := by decide +kernel
theorem d_Md_init_21 : decode b_Md_init 21 = .ok (.bipush 16, 2) := by decide +kernel
theorem d_Md_init_23 : decode b_Md_init 23 = .ok (.newarray .int, 2) := by decide +kernel
theorem d_Md_init_25 : decode b_Md_init 25 = .ok (.putfield 16, 3) := by decide +kernel
theorem d_Md_init_28 : decode b_Md_init 28 = .ok (.aload_n 0, 1) := by decide +kernel
theorem d_Md_init_29 : decode b_Md_init 29 = .ok (.bipush 120, 2) := by decide +kernel
theorem d_Md_init_31 : decode b_Md_init 31 = .ok (.newarray .int, 2) := by decide +kernel
theorem d_Md_init_33 : decode b_Md_init 33 = .ok (.putfield 19, 3) := by decide +kernel
theorem d_Md_init_36 : decode b_Md_init 36 = .ok (.aload_n 0, 1) := by decide +kernel
theorem d_Md_init_37 : decode b_Md_init 37 = .ok (.bipush 120, 2) := by decide +kernel
theorem d_Md_init_39 : decode b_Md_init 39 = .ok (.newarray .int, 2) := by decide +kernel
theorem d_Md_init_41 : decode b_Md_init 41 = .ok (.putfield 22, 3) := by decide +kernel
theorem d_Md_init_44 : decode b_Md_init 44 = .ok (.aload_n 0, 1) := by decide +kernel
theorem d_Md_init_45 : decode b_Md_init 45 = .ok (.bipush 120, 2) := by decide +kernel
theorem d_Md_init_47 : decode b_Md_init 47 = .ok (.newarray .int, 2) := by decide +kernel
theorem d_Md_init_49 : decode b_Md_init 49 = .ok (.putfield 25, 3) := by decide +kernel
theorem d_Md_init_52 : decode b_Md_init 52 = .ok (.aload_n 0, 1) := by decide +kernel
theorem d_Md_init_53 : decode b_Md_init 53 = .ok (.bipush 120, 2) := by decide +kernel
theorem d_Md_init_55 : decode b_Md_init 55 = .ok (.newarray .int, 2) := by decide +kernel
theorem d_Md_init_57 : decode b_Md_init 57 = .ok (.putfield 28, 3) := by decide +kernel
theorem d_Md_init_60 : decode b_Md_init 60 = .ok (.aload_n 0, 1) := by decide +kernel
theorem d_Md_init_61 : decode b_Md_init 61 = .ok (.bipush 120, 2) := by decide +kernel
theorem d_Md_init_63 : decode b_Md_init 63 = .ok (.newarray .int, 2) := by decide +kernel
theorem d_Md_init_65 : decode b_Md_init 65 = .ok (.putfield 31, 3) := by decide +kernel
theorem d_Md_init_68 : decode b_Md_init 68 = .ok (.aload_n 0, 1) := by decide +kernel
theorem d_Md_init_69 : decode b_Md_init 69 = .ok (.sipush 360, 3) := by decide +kernel
theorem d_Md_init_72 : decode b_Md_init 72 = .ok (.newarray .int, 2) := by decide +kernel
theorem d_Md_init_74 : decode b_Md_init 74 = .ok (.putfield 34, 3) := by decide +kernel
theorem d_Md_init_77 : decode b_Md_init 77 = .ok (.aload_n 0, 1) := by decide +kernel
theorem d_Md_init_78 : decode b_Md_init 78 = .ok (.sipush 128, 3) := by decide +kernel
theorem d_Md_init_81 : decode b_Md_init 81 = .ok (.newarray .int, 2) := by decide +kernel
theorem d_Md_init_83 : decode b_Md_init 83 = .ok (.putfield 37, 3) := by decide +kernel
theorem d_Md_init_86 : decode b_Md_init 86 = .ok (.aload_n 0, 1) := by decide +kernel
theorem d_Md_init_87 : decode b_Md_init 87 = .ok (.sipush 128, 3) := by decide +kernel
theorem d_Md_init_90 : decode b_Md_init 90 = .ok (.newarray .int, 2) := by decide +kernel
theorem d_Md_init_92 : decode b_Md_init 92 = .ok (.putfield 40, 3) := by decide +kernel
theorem d_Md_init_95 : decode b_Md_init 95 = .ok (.aload_n 0, 1) := by decide +kernel
theorem d_Md_init_96 : decode b_Md_init 96 = .ok (.sipush 128, 3) := by decide +kernel
theorem d_Md_init_99 : decode b_Md_init 99 = .ok (.newarray .int, 2) := by decide +kernel
theorem d_Md_init_101 : decode b_Md_init 101 = .ok (.putfield 43, 3) := by decide +kernel
theorem d_Md_init_104 : decode b_Md_init 104 = .ok (.aload_n 0, 1) := by decide +kernel
theorem d_Md_init_105 : decode b_Md_init 105 = .ok (.sipush 128, 3) := by decide +kernel
theorem d_Md_init_108 : decode b_Md_init 108 = .ok (.newarray .int, 2) := by decide +kernel
theorem d_Md_init_110 : decode b_Md_init 110 = .ok (.putfield 46, 3) := by decide +kernel
theorem d_Md_init_113 : decode b_Md_init 113 = .ok (.aload_n 0, 1) := by decide +kernel
theorem d_Md_init_114 : decode b_Md_init 114 = .ok (.sipush 128, 3) := by decide +kernel
theorem d_Md_init_117 : decode b_Md_init 117 = .ok (.newarray .int, 2) := by decide +kernel
theorem d_Md_init_119 : decode b_Md_init 119 = .ok (.putfield 49, 3) := by decide +kernel
theorem d_Md_init_122 : decode b_Md_init 122 = .ok (.aload_n 0, 1) := by decide +kernel
theorem d_Md_init_123 : decode b_Md_init 123 = .ok (.sipush 128, 3) := by decide +kernel
theorem d_Md_init_126 : decode b_Md_init 126 = .ok (.newarray .boolean, 2) := by decide +kernel
theorem d_Md_init_128 : decode b_Md_init 128 = .ok (.putfield 52, 3) := by decide +kernel
theorem d_Md_init_131 : decode b_Md_init 131 = .ok (.aload_n 0, 1) := by decide +kernel
theorem d_Md_init_132 : decode b_Md_init 132 = .ok (.iconst 2, 1) := by decide +kernel
theorem d_Md_init_133 : decode b_Md_init 133 = .ok (.newarray .int, 2) := by decide +kernel
theorem d_Md_init_135 : decode b_Md_init 135 = .ok (.putfield 56, 3) := by decide +kernel
theorem d_Md_init_138 : decode b_Md_init 138 = .ok (.aload_n 0, 1) := by decide +kernel
theorem d_Md_init_139 : decode b_Md_init 139 = .ok (.iconst 1, 1) := by decide +kernel
theorem d_Md_init_140 : decode b_Md_init 140 = .ok (.putfield 59, 3) := by decide +kernel
theorem d_Md_init_143 : decode b_Md_init 143 = .ok (.aload_n 0, 1) := by decide +kernel
theorem d_Md_init_144 : decode b_Md_init 144 = .ok (.iconst 1, 1) := by decide +kernel
theorem d_Md_init_145 : decode b_Md_init 145 = .ok (.putfield 63, 3) := by decide +kernel
theorem d_Md_init_148 : decode b_Md_init 148 = .ok (.aload_n 0, 1) := by decide +kernel
theorem d_Md_init_149 : decode b_Md_init 149 = .ok (.iload_n 1, 1) := by decide +kernel
theorem d_Md_init_150 : decode b_Md_init 150 = .ok (.iconst 1, 1) := by decide +kernel
theorem d_Md_init_151 : decode b_Md_init 151 = .ok (.if_icmp .ge 7, 3) := by decide +kernel
theorem d_Md_init_154 : decode b_Md_init 154 = .ok (.iconst 1, 1) := by decide +kernel
theorem d_Md_init_155 : decode b_Md_init 155 = .ok (.goto 13, 3) := by decide +kernel
theorem d_Md_init_158 : decode b_Md_init 158 = .ok (.iload_n 1, 1) := by decide +kernel
theorem d_Md_init_159 : decode b_Md_init 159 = .ok (.iconst 4, 1) := by decide +kernel
theorem d_Md_init_160 : decode b_Md_init 160 = .ok (.if_icmp .le 7, 3) := by decide +kernel
theorem d_Md_init_163 : decode b_Md_init 163 = .ok (.iconst 4, 1) := by decide +kernel
theorem d_Md_init_164 : decode b_Md_init 164 = .ok (.goto 4, 3) := by decide +kernel
theorem d_Md_init_167 : decode b_Md_init 167 = .ok (.iload_n 1, 1) := by decide +kernel
theorem d_Md_init_168 : decode b_Md_init 168 = .ok (.putfield 67, 3) := by decide +kernel
theorem d_Md_init_171 : decode b_Md_init 171 = .ok (.aload_n 0, 1) := by decide +kernel
theorem d_Md_init_172 : decode b_Md_init 172 = .ok (.iload_n 2, 1) := by decide +kernel
theorem d_Md_init_173 : decode b_Md_init 173 = .ok (.iconst 1, 1) := by decide +kernel
theorem d_Md_init_174 : decode b_Md_init 174 = .ok (.if_icmp .ge 7, 3) := by decide +kernel
theorem d_Md_init_177 : decode b_Md_init 177 = .ok (.iconst 1, 1) := by decide +kernel
theorem d_Md_init_178 : decode b_Md_init 178 = .ok (.goto 15, 3) := by decide +kernel
theorem d_Md_init_181 : decode b_Md_init 181 = .ok (.iload_n 2, 1) := by decide +kernel
theorem d_Md_init_182 : decode b_Md_init 182 = .ok (.bipush 6, 2) := by decide +kernel
theorem d_Md_init_184 : decode b_Md_init 184 = .ok (.if_icmp .le 8, 3) := by decide +kernel
theorem d_Md_init_187 : decode b_Md_init 187 = .ok (.bipush 6, 2) := by decide +kernel
theorem d_Md_init_189 : decode b_Md_init 189 = .ok (.goto 4, 3) := by decide +kernel
theorem d_Md_init_192 : decode b_Md_init 192 = .ok (.iload_n 2, 1) := by decide +kernel
theorem d_Md_init_193 : decode b_Md_init 193 = .ok (.putfield 70, 3) := by decide +kernel
theorem d_Md_init_196 : decode b_Md_init 196 = .ok (.aload_n 0, 1) := by decide +kernel
theorem d_Md_init_197 : decode b_Md_init 197 = .ok (.aload_n 0, 1) := by decide +kernel
theorem d_Md_init_198 : decode b_Md_init 198 = .ok (.getfield 67, 3) := by decide +kernel
theorem d_Md_init_201 : decode b_Md_init 201 = .ok (.putfield 73, 3) := by decide +kernel
theorem d_Md_init_204 : decode b_Md_init 204 = .ok (.return_, 1) := by decide +kernel
theorem d_Md_write_0 : decode b_Md_write 0 = .ok (.aload_n 0, 1) := by decide +kernel
theorem d_Md_write_1 : decode b_Md_write 1 = .ok (.iload_n 1, 1) := by decide +kernel
theorem d_Md_write_2 : decode b_Md_write 2 = .ok (.iload_n 2, 1) := by decide +kernel
theorem d_Md_write_3 : decode b_Md_write 3 = .ok (.invokevirtual 79, 3) := by decide +kernel
theorem d_Md_write_6 : decode b_Md_write 6 = .ok (.ifCond .eq 7, 3) := by decide +kernel
theorem d_Md_write_9 : decode b_Md_write 9 = .ok (.iconst (-1), 1) := by decide +kernel
theorem d_Md_write_10 : decode b_Md_write 10 = .ok (.goto 11, 3) := by decide +kernel
theorem d_Md_write_13 : decode b_Md_write 13 = .ok (.aload_n 0, 1) := by decide +kernel
theorem d_Md_write_14 : decode b_Md_write 14 = .ok (.iconst 0, 1) := by decide +kernel
theorem d_Md_write_15 : decode b_Md_write 15 = .ok (.iload_n 1, 1) := by decide +kernel
theorem d_Md_write_16 : decode b_Md_write 16 = .ok (.iload_n 2, 1) := by decide +kernel
theorem d_Md_write_17 : decode b_Md_write 17 = .ok (.iload_n 3, 1) := by decide +kernel
theorem d_Md_write_18 : decode b_Md_write 18 = .ok (.invokevirtual 83, 3) := by decide +kernel
theorem d_Md_write_21 : decode b_Md_write 21 = .ok (.ireturn, 1) := by decide +kernel
theorem d_Md_outside_0 : decode b_Md_outside 0 = .ok (.iload_n 1, 1) := by decide +kernel
theorem d_Md_outside_1 : decode b_Md_outside 1 = .ok (.ifCond .lt 27, 3) := by decide +kernel
theorem d_Md_outside_4 : decode b_Md_outside 4 = .ok (.iload_n 1, 1) := by decide +kernel
theorem d_Md_outside_5 : decode b_Md_outside 5 = .ok (.bipush 15, 2) := by decide +kernel
theorem d_Md_outside_7 : decode b_Md_outside 7 = .ok (.if_icmp .gt 21, 3) := by decide +kernel
theorem d_Md_outside_10 : decode b_Md_outside 10 = .ok (.iload_n 2, 1) := by decide +kernel
theorem d_Md_outside_11 : decode b_Md_outside 11 = .ok (.iconst 1, 1) := by decide +kernel
theorem d_Md_outside_12 : decode b_Md_outside 12 = .ok (.if_icmp .lt 16, 3) := by decide +kernel
theorem d_Md_outside_15 : decode b_Md_outside 15 = .ok (.iload_n 2, 1) := by decide +kernel
theorem d_Md_outside_16 : decode b_Md_outside 16 = .ok (.iconst 3, 1) := by decide +kernel
theorem d_Md_outside_17 : decode b_Md_outside 17 = .ok (.if_icmp .gt 11, 3) := by decide +kernel
theorem d_Md_outside_20 : decode b_Md_outside 20 = .ok (.iload_n 1, 1) := by decide +kernel
theorem d_Md_outside_21 : decode b_Md_outside 21 = .ok (.iload_n 2, 1) := by decide +kernel
theorem d_Md_outside_22 : decode b_Md_outside 22 = .ok (.iadd, 1) := by decide +kernel
theorem d_Md_outside_23 : decode b_Md_outside 23 = .ok (.bipush 16, 2) := by decide +kernel
theorem d_Md_outside_25 : decode b_Md_outside 25 = .ok (.if_icmp .le 7, 3) := by decide +kernel
theorem d_Md_outside_28 : decode b_Md_outside 28 = .ok (.iconst 1, 1) := by decide +kernel
theorem d_Md_outside_29 : decode b_Md_outside 29 = .ok (.goto 4, 3) := by decide +kernel
theorem d_Md_outside_32 : decode b_Md_outside 32 = .ok (.iconst 0, 1) := by decide +kernel
theorem d_Md_outside_33 : decode b_Md_outside 33 = .ok (.ireturn, 1) := by decide +kernel
theorem d_Md_add_0 : decode b_Md_add 0 = .ok (.aload_n 0, 1) := by decide +kernel
theorem d_Md_add_1 : decode b_Md_add 1 = .ok (.getfield 76, 3) := by decide +kernel
theorem d_Md_add_4 : decode b_Md_add 4 = .ok (.bipush 120, 2) := by decide +kernel
theorem d_Md_add_6 : decode b_Md_add 6 = .ok (.if_icmp .ne 6, 3) := by decide +kernel
theorem d_Md_add_9 : decode b_Md_add 9 = .ok (.bipush (-2), 2) := by decide +kernel
theorem d_Md_add_11 : decode b_Md_add 11 = .ok (.ireturn, 1) := by decide +kernel
theorem d_Md_add_12 : decode b_Md_add 12 = .ok (.aload_n 0, 1) := by decide +kernel
theorem d_Md_add_13 : decode b_Md_add 13 = .ok (.getfield 19, 3) := by decide +kernel
theorem d_Md_add_16 : decode b_Md_add 16 = .ok (.aload_n 0, 1) := by decide +kernel
theorem d_Md_add_17 : decode b_Md_add 17 = .ok (.getfield 76, 3) := by decide +kernel
theorem d_Md_add_20 : decode b_Md_add 20 = .ok (.iload_n 1, 1) := by decide +kernel
theorem d_Md_add_21 : decode b_Md_add 21 = .ok (.iastore, 1) := by decide +kernel
theorem d_Md_add_22 : decode b_Md_add 22 = .ok (.aload_n 0, 1) := by decide +kernel
theorem d_Md_add_23 : decode b_Md_add 23 = .ok (.getfield 22, 3) := by decide +kernel
theorem d_Md_add_26 : decode b_Md_add 26 = .ok (.aload_n 0, 1) := by decide +kernel
theorem d_Md_add_27 : decode b_Md_add 27 = .ok (.getfield 76, 3) := by decide +kernel
theorem d_Md_add_30 : decode b_Md_add 30 = .ok (.iload_n 2, 1) := by decide +kernel
theorem d_Md_add_31 : decode b_Md_add 31 = .ok (.iastore, 1) := by decide +kernel
theorem d_Md_add_32 : decode b_Md_add 32 = .ok (.aload_n 0, 1) := by decide +kernel
theorem d_Md_add_33 : decode b_Md_add 33 = .ok (.getfield 25, 3) := by decide +kernel
theorem d_Md_add_36 : decode b_Md_add 36 = .ok (.aload_n 0, 1) := by decide +kernel
theorem d_Md_add_37 : decode b_Md_add 37 = .ok (.getfield 76, 3) := by decide +kernel
theorem d_Md_add_40 : decode b_Md_add 40 = .ok (.iload_n 3, 1) := by decide +kernel
theorem d_Md_add_41 : decode b_Md_add 41 = .ok (.iastore, 1) := by decide +kernel
theorem d_Md_add_42 : decode b_Md_add 42 = .ok (.aload_n 0, 1) := by decide +kernel
theorem d_Md_add_43 : decode b_Md_add 43 = .ok (.getfield 28, 3) := by decide +kernel
theorem d_Md_add_46 : decode b_Md_add 46 = .ok (.aload_n 0, 1) := by decide +kernel
theorem d_Md_add_47 : decode b_Md_add 47 = .ok (.getfield 76, 3) := by decide +kernel
theorem d_Md_add_50 : decode b_Md_add 50 = .ok (.iload 4, 2) := by decide +kernel
theorem d_Md_add_52 : decode b_Md_add 52 = .ok (.iastore, 1) := by decide +kernel
theorem d_Md_add_53 : decode b_Md_add 53 = .ok (.aload_n 0, 1) := by decide +kernel
theorem d_Md_add_54 : decode b_Md_add 54 = .ok (.getfield 31, 3) := by decide +kernel
theorem d_Md_add_57 : decode b_Md_add 57 = .ok (.aload_n 0, 1) := by decide +kernel
theorem d_Md_add_58 : decode b_Md_add 58 = .ok (.getfield 76, 3) := by decide +kernel
theorem d_Md_add_61 : decode b_Md_add 61 = .ok (.iconst 0, 1) := by decide +kernel
theorem d_Md_add_62 : decode b_Md_add 62 = .ok (.iastore, 1) := by decide +kernel
theorem d_Md_add_63 : decode b_Md_add 63 = .ok (.aload_n 0, 1) := by decide +kernel
theorem d_Md_add_64 : decode b_Md_add 64 = .ok (.dup, 1) := by decide +kernel
theorem d_Md_add_65 : decode b_Md_add 65 = .ok (.getfield 76, 3) := by decide +kernel
theorem d_Md_add_68 : decode b_Md_add 68 = .ok (.iconst 1, 1) := by decide +kernel
theorem d_Md_add_69 : decode b_Md_add 69 = .ok (.iadd, 1) := by decide +kernel
theorem d_Md_add_70 : decode b_Md_add 70 = .ok (.putfield 76, 3) := by decide +kernel
theorem d_Md_add_73 : decode b_Md_add 73 = .ok (.aload_n 0, 1) := by decide +kernel
theorem d_Md_add_74 : decode b_Md_add 74 = .ok (.getfield 76, 3) := by decide +kernel
theorem d_Md_add_77 : decode b_Md_add 77 = .ok (.iconst 1, 1) := by decide +kernel
theorem d_Md_add_78 : decode b_Md_add 78 = .ok (.isub, 1) := by decide +kernel
theorem d_Md_add_79 : decode b_Md_add 79 = .ok (.ireturn, 1) := by decide +kernel
theorem d_Md_read_0 : decode b_Md_read 0 = .ok (.aload_n 0, 1) := by decide +kernel
theorem d_Md_read_1 : decode b_Md_read 1 = .ok (.iload_n 1, 1) := by decide +kernel
theorem d_Md_read_2 : decode b_Md_read 2 = .ok (.iload_n 2, 1) := by decide +kernel
theorem d_Md_read_3 : decode b_Md_read 3 = .ok (.invokevirtual 79, 3) := by decide +kernel
theorem d_Md_read_6 : decode b_Md_read 6 = .ok (.ifCond .eq 7, 3) := by decide +kernel
theorem d_Md_read_9 : decode b_Md_read 9 = .ok (.iconst (-1), 1) := by decide +kernel
theorem d_Md_read_10 : decode b_Md_read 10 = .ok (.goto 11, 3) := by decide +kernel
theorem d_Md_read_13 : decode b_Md_read 13 = .ok (.aload_n 0, 1) := by decide +kernel
theorem d_Md_read_14 : decode b_Md_read 14 = .ok (.iconst 1, 1) := by decide +kernel
theorem d_Md_read_15 : decode b_Md_read 15 = .ok (.iload_n 1, 1) := by decide +kernel
theorem d_Md_read_16 : decode b_Md_read 16 = .ok (.iload_n 2, 1) := by decide +kernel
theorem d_Md_read_17 : decode b_Md_read 17 = .ok (.iconst 0, 1) := by decide +kernel
theorem d_Md_read_18 : decode b_Md_read 18 = .ok (.invokevirtual 83, 3) := by decide +kernel
theorem d_Md_read_21 : decode b_Md_read 21 = .ok (.ireturn, 1) := by decide +kernel
theorem d_Md_sync_0 : decode b_Md_sync 0 = .ok (.aload_n 0, 1) := by decide +kernel
theorem d_Md_sync_1 : decode b_Md_sync 1 = .ok (.iconst 2, 1) := by decide +kernel
theorem d_Md_sync_2 : decode b_Md_sync 2 = .ok (.iconst 0, 1) := by decide +kernel
theorem d_Md_sync_3 : decode b_Md_sync 3 = .ok (.iconst 0, 1) := by decide +kernel
theorem d_Md_sync_4 : decode b_Md_sync 4 = .ok (.iconst 0, 1) := by decide +kernel
theorem d_Md_sync_5 : decode b_Md_sync 5 = .ok (.invokevirtual 83, 3) := by decide +kernel
theorem d_Md_sync_8 : decode b_Md_sync 8 = .ok (.ireturn, 1) := by decide +kernel
theorem d_Md_flush_0 : decode b_Md_flush 0 = .ok (.aload_n 0, 1) := by decide +kernel
theorem d_Md_flush_1 : decode b_Md_flush 1 = .ok (.iconst 0, 1) := by decide +kernel
theorem d_Md_flush_2 : decode b_Md_flush 2 = .ok (.invokevirtual 87, 3) := by decide +kernel
theorem d_Md_flush_5 : decode b_Md_flush 5 = .ok (.istore_n 1, 1) := by decide +kernel
theorem d_Md_flush_6 : decode b_Md_flush 6 = .ok (.iload_n 1, 1) := by decide +kernel
theorem d_Md_flush_7 : decode b_Md_flush 7 = .ok (.ifCond .ge 6, 3) := by decide +kernel
theorem d_Md_flush_10 : decode b_Md_flush 10 = .ok (.bipush (-3), 2) := by decide +kernel
theorem d_Md_flush_12 : decode b_Md_flush 12 = .ok (.ireturn, 1) := by decide +kernel
theorem d_Md_flush_13 : decode b_Md_flush 13 = .ok (.aload_n 0, 1) := by decide +kernel
theorem d_Md_flush_14 : decode b_Md_flush 14 = .ok (.getfield 7, 3) := by decide +kernel
theorem d_Md_flush_17 : decode b_Md_flush 17 = .ok (.iload_n 1, 1) := by decide +kernel
theorem d_Md_flush_18 : decode b_Md_flush 18 = .ok (.aload_n 0, 1) := by decide +kernel
theorem d_Md_flush_19 : decode b_Md_flush 19 = .ok (.getfield 13, 3) := by decide +kernel
theorem d_Md_flush_22 : decode b_Md_flush 22 = .ok (.iload_n 1, 1) := by decide +kernel
theorem d_Md_flush_23 : decode b_Md_flush 23 = .ok (.iaload, 1) := by decide +kernel
theorem d_Md_flush_24 : decode b_Md_flush 24 = .ok (.iastore, 1) := by decide +kernel
theorem d_Md_flush_25 : decode b_Md_flush 25 = .ok (.aload_n 0, 1) := by decide +kernel
theorem d_Md_flush_26 : decode b_Md_flush 26 = .ok (.getfield 16, 3) := by decide +kernel
theorem d_Md_flush_29 : decode b_Md_flush 29 = .ok (.iload_n 1, 1) := by decide +kernel
theorem d_Md_flush_30 : decode b_Md_flush 30 = .ok (.iconst 0, 1) := by decide +kernel
theorem d_Md_flush_31 : decode b_Md_flush 31 = .ok (.iastore, 1) := by decide +kernel
theorem d_Md_flush_32 : decode b_Md_flush 32 = .ok (.iload_n 1, 1) := by decide +kernel
theorem d_Md_flush_33 : decode b_Md_flush 33 = .ok (.ireturn, 1) := by decide +kernel
theorem d_Md_blockAt_0 : decode b_Md_blockAt 0 = .ok (.iconst 0, 1) := by decide +kernel
theorem d_Md_blockAt_1 : decode b_Md_blockAt 1 = .ok (.istore_n 2, 1) := by decide +kernel
theorem d_Md_blockAt_2 : decode b_Md_blockAt 2 = .ok (.iload_n 2, 1) := by decide +kernel
theorem d_Md_blockAt_3 : decode b_Md_blockAt 3 = .ok (.bipush 16, 2) := by decide +kernel
theorem d_Md_blockAt_5 : decode b_Md_blockAt 5 = .ok (.if_icmp .ge 72, 3) := by decide +kernel
theorem d_Md_blockAt_8 : decode b_Md_blockAt 8 = .ok (.iconst 0, 1) := by decide +kernel
theorem d_Md_blockAt_9 : decode b_Md_blockAt 9 = .ok (.istore_n 3, 1) := by decide +kernel
theorem d_Md_blockAt_10 : decode b_Md_blockAt 10 = .ok (.iconst 0, 1) := by decide +kernel
theorem d_Md_blockAt_11 : decode b_Md_blockAt 11 = .ok (.istore 4, 2) := by decide +kernel
theorem d_Md_blockAt_13 : decode b_Md_blockAt 13 = .ok (.iload 4, 2) := by decide +kernel
theorem d_Md_blockAt_15 : decode b_Md_blockAt 15 = .ok (.bipush 16, 2) := by decide +kernel
theorem d_Md_blockAt_17 : decode b_Md_blockAt 17 = .ok (.if_icmp .ge 38, 3) := by decide +kernel
theorem d_Md_blockAt_20 : decode b_Md_blockAt 20 = .ok (.aload_n 0, 1) := by decide +kernel
theorem d_Md_blockAt_21 : decode b_Md_blockAt 21 = .ok (.getfield 16, 3) := by decide +kernel
theorem d_Md_blockAt_24 : decode b_Md_blockAt 24 = .ok (.iload 4, 2) := by decide +kernel
theorem d_Md_blockAt_26 : decode b_Md_blockAt 26 = .ok (.iaload, 1) := by decide +kernel
theorem d_Md_blockAt_27 : decode b_Md_blockAt 27 = .ok (.ifCond .le 22, 3) := by decide +kernel
theorem d_Md_blockAt_30 : decode b_Md_blockAt 30 = .ok (.aload_n 0, 1) := by decide +kernel
theorem d_Md_blockAt_31 : decode b_Md_blockAt 31 = .ok (.getfield 16, 3) := by decide +kernel
theorem d_Md_blockAt_34 : decode b_Md_blockAt 34 = .ok (.iload 4, 2) := by decide +kernel
theorem d_Md_blockAt_36 : decode b_Md_blockAt 36 = .ok (.iaload, 1) := by decide +kernel
theorem d_Md_blockAt_37 : decode b_Md_blockAt 37 = .ok (.aload_n 0, 1) := by decide +kernel
theorem d_Md_blockAt_38 : decode b_Md_blockAt 38 = .ok (.getfield 16, 3) := by decide +kernel
theorem d_Md_blockAt_41 : decode b_Md_blockAt 41 = .ok (.iload_n 2, 1) := by decide +kernel
theorem d_Md_blockAt_42 : decode b_Md_blockAt 42 = .ok (.iaload, 1) := by decide +kernel
theorem d_Md_blockAt_43 : decode b_Md_blockAt 43 = .ok (.if_icmp .ge 6, 3) := by decide +kernel
theorem d_Md_blockAt_46 : decode b_Md_blockAt 46 = .ok (.iinc 3 1, 3) := by decide +kernel
theorem d_Md_blockAt_49 : decode b_Md_blockAt 49 = .ok (.iinc 4 1, 3) := by decide +kernel
theorem d_Md_blockAt_52 : decode b_Md_blockAt 52 = .ok (.goto (-39), 3) := by decide +kernel
theorem d_Md_blockAt_55 : decode b_Md_blockAt 55 = .ok (.aload_n 0, 1) := by decide +kernel
theorem d_Md_blockAt_56 : decode b_Md_blockAt 56 = .ok (.getfield 16, 3) := by decide +kernel
theorem d_Md_blockAt_59 : decode b_Md_blockAt 59 = .ok (.iload_n 2, 1) := by decide +kernel
theorem d_Md_blockAt_60 : decode b_Md_blockAt 60 = .ok (.iaload, 1) := by decide +kernel
theorem d_Md_blockAt_61 : decode b_Md_blockAt 61 = .ok (.ifCond .le 10, 3) := by decide +kernel
theorem d_Md_blockAt_64 : decode b_Md_blockAt 64 = .ok (.iload_n 3, 1) := by decide +kernel
theorem d_Md_blockAt_65 : decode b_Md_blockAt 65 = .ok (.iload_n 1, 1) := by decide +kernel
theorem d_Md_blockAt_66 : decode b_Md_blockAt 66 = .ok (.if_icmp .ne 5, 3) := by decide +kernel
theorem d_Md_blockAt_69 : decode b_Md_blockAt 69 = .ok (.iload_n 2, 1) := by decide +kernel
theorem d_Md_blockAt_70 : decode b_Md_blockAt 70 = .ok (.ireturn, 1) := by decide +kernel
theorem d_Md_blockAt_71 : decode b_Md_blockAt 71 = .ok (.iinc 2 1, 3) := by decide +kernel
theorem d_Md_blockAt_74 : decode b_Md_blockAt 74 = .ok (.goto (-72), 3) := by decide +kernel
theorem d_Md_blockAt_77 : decode b_Md_blockAt 77 = .ok (.bipush (-3), 2) := by decide +kernel
theorem d_Md_blockAt_79 : decode b_Md_blockAt 79 = .ok (.ireturn, 1) := by decide +kernel
theorem d_Md_send_0 : decode b_Md_send 0 = .ok (.aload_n 0, 1) := by decide +kernel
theorem d_Md_send_1 : decode b_Md_send 1 = .ok (.getfield 59, 3) := by decide +kernel
theorem d_Md_send_4 : decode b_Md_send 4 = .ok (.ifCond .ne 6, 3) := by decide +kernel
theorem d_Md_send_7 : decode b_Md_send 7 = .ok (.bipush (-4), 2) := by decide +kernel
theorem d_Md_send_9 : decode b_Md_send 9 = .ok (.ireturn, 1) := by decide +kernel
theorem d_Md_send_10 : decode b_Md_send 10 = .ok (.aload_n 0, 1) := by decide +kernel
theorem d_Md_send_11 : decode b_Md_send 11 = .ok (.iconst 0, 1) := by decide +kernel
theorem d_Md_send_12 : decode b_Md_send 12 = .ok (.invokevirtual 104, 3) := by decide +kernel
theorem d_Md_send_15 : decode b_Md_send 15 = .ok (.ifCond .ne 6, 3) := by decide +kernel
theorem d_Md_send_18 : decode b_Md_send 18 = .ok (.bipush (-3), 2) := by decide +kernel
theorem d_Md_send_20 : decode b_Md_send 20 = .ok (.ireturn, 1) := by decide +kernel
theorem d_Md_send_21 : decode b_Md_send 21 = .ok (.iconst 0, 1) := by decide +kernel
theorem d_Md_send_22 : decode b_Md_send 22 = .ok (.istore_n 1, 1) := by decide +kernel
theorem d_Md_send_23 : decode b_Md_send 23 = .ok (.iload_n 1, 1) := by decide +kernel
theorem d_Md_send_24 : decode b_Md_send 24 = .ok (.bipush 119, 2) := by decide +kernel
theorem d_Md_send_26 : decode b_Md_send 26 = .ok (.if_icmp .ge 18, 3) := by decide +kernel
theorem d_Md_send_29 : decode b_Md_send 29 = .ok (.aload_n 0, 1) := by decide +kernel
theorem d_Md_send_30 : decode b_Md_send 30 = .ok (.getfield 31, 3) := by decide +kernel
theorem d_Md_send_33 : decode b_Md_send 33 = .ok (.iload_n 1, 1) := by decide +kernel
theorem d_Md_send_34 : decode b_Md_send 34 = .ok (.iaload, 1) := by decide +kernel
theorem d_Md_send_35 : decode b_Md_send 35 = .ok (.ifCond .eq 9, 3) := by decide +kernel
theorem d_Md_send_38 : decode b_Md_send 38 = .ok (.iinc 1 1, 3) := by decide +kernel
theorem d_Md_send_41 : decode b_Md_send 41 = .ok (.goto (-18), 3) := by decide +kernel
theorem d_Md_send_44 : decode b_Md_send 44 = .ok (.aload_n 0, 1) := by decide +kernel
theorem d_Md_send_45 : decode b_Md_send 45 = .ok (.getfield 107, 3) := by decide +kernel
theorem d_Md_send_48 : decode b_Md_send 48 = .ok (.aload_n 0, 1) := by decide +kernel
theorem d_Md_send_49 : decode b_Md_send 49 = .ok (.getfield 73, 3) := by decide +kernel
theorem d_Md_send_52 : decode b_Md_send 52 = .ok (.if_icmp .lt 6, 3) := by decide +kernel
theorem d_Md_send_55 : decode b_Md_send 55 = .ok (.bipush (-2), 2) := by decide +kernel
theorem d_Md_send_57 : decode b_Md_send 57 = .ok (.ireturn, 1) := by decide +kernel
theorem d_Md_send_58 : decode b_Md_send 58 = .ok (.aload_n 0, 1) := by decide +kernel
theorem d_Md_send_59 : decode b_Md_send 59 = .ok (.getfield 31, 3) := by decide +kernel
theorem d_Md_send_62 : decode b_Md_send 62 = .ok (.iload_n 1, 1) := by decide +kernel
theorem d_Md_send_63 : decode b_Md_send 63 = .ok (.iconst 1, 1) := by decide +kernel
theorem d_Md_send_64 : decode b_Md_send 64 = .ok (.iastore, 1) := by decide +kernel
theorem d_Md_send_65 : decode b_Md_send 65 = .ok (.aload_n 0, 1) := by decide +kernel
theorem d_Md_send_66 : decode b_Md_send 66 = .ok (.dup, 1) := by decide +kernel
theorem d_Md_send_67 : decode b_Md_send 67 = .ok (.getfield 107, 3) := by decide +kernel
theorem d_Md_send_70 : decode b_Md_send 70 = .ok (.iconst 1, 1) := by decide +kernel
theorem d_Md_send_71 : decode b_Md_send 71 = .ok (.iadd, 1) := by decide +kernel
theorem d_Md_send_72 : decode b_Md_send 72 = .ok (.putfield 107, 3) := by decide +kernel
theorem d_Md_send_75 : decode b_Md_send 75 = .ok (.aload_n 0, 1) := by decide +kernel
theorem d_Md_send_76 : decode b_Md_send 76 = .ok (.iconst 0, 1) := by decide +kernel
theorem d_Md_send_77 : decode b_Md_send 77 = .ok (.iload_n 1, 1) := by decide +kernel
theorem d_Md_send_78 : decode b_Md_send 78 = .ok (.iconst 0, 1) := by decide +kernel
theorem d_Md_send_79 : decode b_Md_send 79 = .ok (.iconst 0, 1) := by decide +kernel
theorem d_Md_send_80 : decode b_Md_send 80 = .ok (.iconst 0, 1) := by decide +kernel
theorem d_Md_send_81 : decode b_Md_send 81 = .ok (.invokevirtual 110, 3) := by decide +kernel
theorem d_Md_send_84 : decode b_Md_send 84 = .ok (.iload_n 1, 1) := by decide +kernel
theorem d_Md_send_85 : decode b_Md_send 85 = .ok (.ireturn, 1) := by decide +kernel
theorem d_Md_number_0 : decode b_Md_number 0 = .ok (.iconst 0, 1) := by decide +kernel
theorem d_Md_number_1 : decode b_Md_number 1 = .ok (.istore_n 2, 1) := by decide +kernel
theorem d_Md_number_2 : decode b_Md_number 2 = .ok (.iconst 0, 1) := by decide +kernel
theorem d_Md_number_3 : decode b_Md_number 3 = .ok (.istore_n 3, 1) := by decide +kernel
theorem d_Md_number_4 : decode b_Md_number 4 = .ok (.iload_n 3, 1) := by decide +kernel
theorem d_Md_number_5 : decode b_Md_number 5 = .ok (.aload_n 0, 1) := by decide +kernel
theorem d_Md_number_6 : decode b_Md_number 6 = .ok (.getfield 76, 3) := by decide +kernel
theorem d_Md_number_9 : decode b_Md_number 9 = .ok (.if_icmp .ge 22, 3) := by decide +kernel
theorem d_Md_number_12 : decode b_Md_number 12 = .ok (.aload_n 0, 1) := by decide +kernel
theorem d_Md_number_13 : decode b_Md_number 13 = .ok (.getfield 31, 3) := by decide +kernel
theorem d_Md_number_16 : decode b_Md_number 16 = .ok (.iload_n 3, 1) := by decide +kernel
theorem d_Md_number_17 : decode b_Md_number 17 = .ok (.iaload, 1) := by decide +kernel
theorem d_Md_number_18 : decode b_Md_number 18 = .ok (.iload_n 1, 1) := by decide +kernel
theorem d_Md_number_19 : decode b_Md_number 19 = .ok (.if_icmp .ne 6, 3) := by decide +kernel
theorem d_Md_number_22 : decode b_Md_number 22 = .ok (.iinc 2 1, 3) := by decide +kernel
theorem d_Md_number_25 : decode b_Md_number 25 = .ok (.iinc 3 1, 3) := by decide +kernel
theorem d_Md_number_28 : decode b_Md_number 28 = .ok (.goto (-24), 3) := by decide +kernel
theorem d_Md_number_31 : decode b_Md_number 31 = .ok (.iload_n 2, 1) := by decide +kernel
theorem d_Md_number_32 : decode b_Md_number 32 = .ok (.ireturn, 1) := by decide +kernel
theorem d_Md_post_0 : decode b_Md_post 0 = .ok (.iload_n 1, 1) := by decide +kernel
theorem d_Md_post_1 : decode b_Md_post 1 = .ok (.bipush 64, 2) := by decide +kernel
theorem d_Md_post_3 : decode b_Md_post 3 = .ok (.imul, 1) := by decide +kernel
theorem d_Md_post_4 : decode b_Md_post 4 = .ok (.aload_n 0, 1) := by decide +kernel
theorem d_Md_post_5 : decode b_Md_post 5 = .ok (.getfield 56, 3) := by decide +kernel
theorem d_Md_post_8 : decode b_Md_post 8 = .ok (.iload_n 1, 1) := by decide +kernel
theorem d_Md_post_9 : decode b_Md_post 9 = .ok (.iaload, 1) := by decide +kernel
theorem d_Md_post_10 : decode b_Md_post 10 = .ok (.iadd, 1) := by decide +kernel
theorem d_Md_post_11 : decode b_Md_post 11 = .ok (.istore 6, 2) := by decide +kernel
theorem d_Md_post_13 : decode b_Md_post 13 = .ok (.aload_n 0, 1) := by decide +kernel
theorem d_Md_post_14 : decode b_Md_post 14 = .ok (.getfield 37, 3) := by decide +kernel
theorem d_Md_post_17 : decode b_Md_post 17 = .ok (.iload 6, 2) := by decide +kernel
theorem d_Md_post_19 : decode b_Md_post 19 = .ok (.iload_n 2, 1) := by decide +kernel
theorem d_Md_post_20 : decode b_Md_post 20 = .ok (.iastore, 1) := by decide +kernel
theorem d_Md_post_21 : decode b_Md_post 21 = .ok (.aload_n 0, 1) := by decide +kernel
theorem d_Md_post_22 : decode b_Md_post 22 = .ok (.getfield 40, 3) := by decide +kernel
theorem d_Md_post_25 : decode b_Md_post 25 = .ok (.iload 6, 2) := by decide +kernel
theorem d_Md_post_27 : decode b_Md_post 27 = .ok (.iload_n 3, 1) := by decide +kernel
theorem d_Md_post_28 : decode b_Md_post 28 = .ok (.iastore, 1) := by decide +kernel
theorem d_Md_post_29 : decode b_Md_post 29 = .ok (.aload_n 0, 1) := by decide +kernel
theorem d_Md_post_30 : decode b_Md_post 30 = .ok (.getfield 43, 3) := by decide +kernel
theorem d_Md_post_33 : decode b_Md_post 33 = .ok (.iload 6, 2) := by decide +kernel
theorem d_Md_post_35 : decode b_Md_post 35 = .ok (.iload 4, 2) := by decide +kernel
theorem d_Md_post_37 : decode b_Md_post 37 = .ok (.iastore, 1) := by decide +kernel
theorem d_Md_post_38 : decode b_Md_post 38 = .ok (.aload_n 0, 1) := by decide +kernel
theorem d_Md_post_39 : decode b_Md_post 39 = .ok (.getfield 46, 3) := by decide +kernel
theorem d_Md_post_42 : decode b_Md_post 42 = .ok (.iload 6, 2) := by decide +kernel
theorem d_Md_post_44 : decode b_Md_post 44 = .ok (.iload 5, 2) := by decide +kernel
theorem d_Md_post_46 : decode b_Md_post 46 = .ok (.iastore, 1) := by decide +kernel
theorem d_Md_post_47 : decode b_Md_post 47 = .ok (.aload_n 0, 1) := by decide +kernel
theorem d_Md_post_48 : decode b_Md_post 48 = .ok (.getfield 49, 3) := by decide +kernel
theorem d_Md_post_51 : decode b_Md_post 51 = .ok (.iload 6, 2) := by decide +kernel
theorem d_Md_post_53 : decode b_Md_post 53 = .ok (.iload_n 1, 1) := by decide +kernel
theorem d_Md_post_54 : decode b_Md_post 54 = .ok (.ifCond .ne 7, 3) := by decide +kernel
theorem d_Md_post_57 : decode b_Md_post 57 = .ok (.iconst 0, 1) := by decide +kernel
theorem d_Md_post_58 : decode b_Md_post 58 = .ok (.goto 12, 3) := by decide +kernel
theorem d_Md_post_61 : decode b_Md_post 61 = .ok (.aload_n 0, 1) := by decide +kernel
theorem d_Md_post_62 : decode b_Md_post 62 = .ok (.getfield 101, 3) := by decide +kernel
theorem d_Md_post_65 : decode b_Md_post 65 = .ok (.aload_n 0, 1) := by decide +kernel
theorem d_Md_post_66 : decode b_Md_post 66 = .ok (.getfield 67, 3) := by decide +kernel
theorem d_Md_post_69 : decode b_Md_post 69 = .ok (.iadd, 1) := by decide +kernel
theorem d_Md_post_70 : decode b_Md_post 70 = .ok (.iastore, 1) := by decide +kernel
theorem d_Md_post_71 : decode b_Md_post 71 = .ok (.aload_n 0, 1) := by decide +kernel
theorem d_Md_post_72 : decode b_Md_post 72 = .ok (.getfield 52, 3) := by decide +kernel
theorem d_Md_post_75 : decode b_Md_post 75 = .ok (.iload 6, 2) := by decide +kernel
theorem d_Md_post_77 : decode b_Md_post 77 = .ok (.iconst 0, 1) := by decide +kernel
theorem d_Md_post_78 : decode b_Md_post 78 = .ok (.bastore, 1) := by decide +kernel
theorem d_Md_post_79 : decode b_Md_post 79 = .ok (.aload_n 0, 1) := by decide +kernel
theorem d_Md_post_80 : decode b_Md_post 80 = .ok (.getfield 56, 3) := by decide +kernel
theorem d_Md_post_83 : decode b_Md_post 83 = .ok (.iload_n 1, 1) := by decide +kernel
theorem d_Md_post_84 : decode b_Md_post 84 = .ok (.dup2, 1) := by decide +kernel
theorem d_Md_post_85 : decode b_Md_post 85 = .ok (.iaload, 1) := by decide +kernel
theorem d_Md_post_86 : decode b_Md_post 86 = .ok (.iconst 1, 1) := by decide +kernel
theorem d_Md_post_87 : decode b_Md_post 87 = .ok (.iadd, 1) := by decide +kernel
theorem d_Md_post_88 : decode b_Md_post 88 = .ok (.iastore, 1) := by decide +kernel
theorem d_Md_post_89 : decode b_Md_post 89 = .ok (.return_, 1) := by decide +kernel
theorem d_Md_deliver_0 : decode b_Md_deliver 0 = .ok (.iload_n 1, 1) := by decide +kernel
theorem d_Md_deliver_1 : decode b_Md_deliver 1 = .ok (.ifCond .eq 7, 3) := by decide +kernel
theorem d_Md_deliver_4 : decode b_Md_deliver 4 = .ok (.iconst 0, 1) := by decide +kernel
theorem d_Md_deliver_5 : decode b_Md_deliver 5 = .ok (.goto 4, 3) := by decide +kernel
end
section
theorem d_Md_deliver_8 : decode b_Md_deliver 8 = .ok (.iconst 1, 1) := by decide +kernel
theorem d_Md_deliver_9 : decode b_Md_deliver 9 = .ok (.istore_n 2, 1) := by decide +kernel
theorem d_Md_deliver_10 : decode b_Md_deliver 10 = .ok (.aload_n 0, 1) := by decide +kernel
theorem d_Md_deliver_11 : decode b_Md_deliver 11 = .ok (.getfield 59, 3) := by decide +kernel
theorem d_Md_deliver_14 : decode b_Md_deliver 14 = .ok (.ifCond .ne 6, 3) := by decide +kernel
theorem d_Md_deliver_17 : decode b_Md_deliver 17 = .ok (.bipush (-4), 2) := by decide +kernel
theorem d_Md_deliver_19 : decode b_Md_deliver 19 = .ok (.ireturn, 1) := by decide +kernel
theorem d_Md_deliver_20 : decode b_Md_deliver 20 = .ok (.aload_n 0, 1) := by decide +kernel
theorem d_Md_deliver_21 : decode b_Md_deliver 21 = .ok (.getfield 56, 3) := by decide +kernel
theorem d_Md_deliver_24 : decode b_Md_deliver 24 = .ok (.iload_n 2, 1) := by decide +kernel
theorem d_Md_deliver_25 : decode b_Md_deliver 25 = .ok (.iaload, 1) := by decide +kernel
theorem d_Md_deliver_26 : decode b_Md_deliver 26 = .ok (.ifCond .ne 6, 3) := by decide +kernel
theorem d_Md_deliver_29 : decode b_Md_deliver 29 = .ok (.bipush (-3), 2) := by decide +kernel
theorem d_Md_deliver_31 : decode b_Md_deliver 31 = .ok (.ireturn, 1) := by decide +kernel
theorem d_Md_deliver_32 : decode b_Md_deliver 32 = .ok (.iload_n 2, 1) := by decide +kernel
theorem d_Md_deliver_33 : decode b_Md_deliver 33 = .ok (.bipush 64, 2) := by decide +kernel
theorem d_Md_deliver_35 : decode b_Md_deliver 35 = .ok (.imul, 1) := by decide +kernel
theorem d_Md_deliver_36 : decode b_Md_deliver 36 = .ok (.istore_n 3, 1) := by decide +kernel
theorem d_Md_deliver_37 : decode b_Md_deliver 37 = .ok (.aload_n 0, 1) := by decide +kernel
theorem d_Md_deliver_38 : decode b_Md_deliver 38 = .ok (.getfield 37, 3) := by decide +kernel
theorem d_Md_deliver_41 : decode b_Md_deliver 41 = .ok (.iload_n 3, 1) := by decide +kernel
theorem d_Md_deliver_42 : decode b_Md_deliver 42 = .ok (.iaload, 1) := by decide +kernel
theorem d_Md_deliver_43 : decode b_Md_deliver 43 = .ok (.istore 4, 2) := by decide +kernel
theorem d_Md_deliver_45 : decode b_Md_deliver 45 = .ok (.aload_n 0, 1) := by decide +kernel
theorem d_Md_deliver_46 : decode b_Md_deliver 46 = .ok (.getfield 40, 3) := by decide +kernel
theorem d_Md_deliver_49 : decode b_Md_deliver 49 = .ok (.iload_n 3, 1) := by decide +kernel
theorem d_Md_deliver_50 : decode b_Md_deliver 50 = .ok (.iaload, 1) := by decide +kernel
theorem d_Md_deliver_51 : decode b_Md_deliver 51 = .ok (.istore 5, 2) := by decide +kernel
theorem d_Md_deliver_53 : decode b_Md_deliver 53 = .ok (.aload_n 0, 1) := by decide +kernel
theorem d_Md_deliver_54 : decode b_Md_deliver 54 = .ok (.getfield 43, 3) := by decide +kernel
theorem d_Md_deliver_57 : decode b_Md_deliver 57 = .ok (.iload_n 3, 1) := by decide +kernel
theorem d_Md_deliver_58 : decode b_Md_deliver 58 = .ok (.iaload, 1) := by decide +kernel
theorem d_Md_deliver_59 : decode b_Md_deliver 59 = .ok (.istore 6, 2) := by decide +kernel
theorem d_Md_deliver_61 : decode b_Md_deliver 61 = .ok (.aload_n 0, 1) := by decide +kernel
theorem d_Md_deliver_62 : decode b_Md_deliver 62 = .ok (.getfield 46, 3) := by decide +kernel
theorem d_Md_deliver_65 : decode b_Md_deliver 65 = .ok (.iload_n 3, 1) := by decide +kernel
theorem d_Md_deliver_66 : decode b_Md_deliver 66 = .ok (.iaload, 1) := by decide +kernel
theorem d_Md_deliver_67 : decode b_Md_deliver 67 = .ok (.istore 7, 2) := by decide +kernel
theorem d_Md_deliver_69 : decode b_Md_deliver 69 = .ok (.aload_n 0, 1) := by decide +kernel
theorem d_Md_deliver_70 : decode b_Md_deliver 70 = .ok (.getfield 49, 3) := by decide +kernel
theorem d_Md_deliver_73 : decode b_Md_deliver 73 = .ok (.iload_n 3, 1) := by decide +kernel
theorem d_Md_deliver_74 : decode b_Md_deliver 74 = .ok (.iaload, 1) := by decide +kernel
theorem d_Md_deliver_75 : decode b_Md_deliver 75 = .ok (.istore 8, 2) := by decide +kernel
theorem d_Md_deliver_77 : decode b_Md_deliver 77 = .ok (.aload_n 0, 1) := by decide +kernel
theorem d_Md_deliver_78 : decode b_Md_deliver 78 = .ok (.getfield 52, 3) := by decide +kernel
theorem d_Md_deliver_81 : decode b_Md_deliver 81 = .ok (.iload_n 3, 1) := by decide +kernel
theorem d_Md_deliver_82 : decode b_Md_deliver 82 = .ok (.baload, 1) := by decide +kernel
theorem d_Md_deliver_83 : decode b_Md_deliver 83 = .ok (.ifCond .eq 10, 3) := by decide +kernel
theorem d_Md_deliver_86 : decode b_Md_deliver 86 = .ok (.aload_n 0, 1) := by decide +kernel
theorem d_Md_deliver_87 : decode b_Md_deliver 87 = .ok (.invokevirtual 128, 3) := by decide +kernel
theorem d_Md_deliver_90 : decode b_Md_deliver 90 = .ok (.bipush (-5), 2) := by decide +kernel
theorem d_Md_deliver_92 : decode b_Md_deliver 92 = .ok (.ireturn, 1) := by decide +kernel
theorem d_Md_deliver_93 : decode b_Md_deliver 93 = .ok (.aload_n 0, 1) := by decide +kernel
theorem d_Md_deliver_94 : decode b_Md_deliver 94 = .ok (.getfield 56, 3) := by decide +kernel
theorem d_Md_deliver_97 : decode b_Md_deliver 97 = .ok (.iload_n 2, 1) := by decide +kernel
theorem d_Md_deliver_98 : decode b_Md_deliver 98 = .ok (.dup2, 1) := by decide +kernel
theorem d_Md_deliver_99 : decode b_Md_deliver 99 = .ok (.iaload, 1) := by decide +kernel
theorem d_Md_deliver_100 : decode b_Md_deliver 100 = .ok (.iconst 1, 1) := by decide +kernel
theorem d_Md_deliver_101 : decode b_Md_deliver 101 = .ok (.isub, 1) := by decide +kernel
theorem d_Md_deliver_102 : decode b_Md_deliver 102 = .ok (.iastore, 1) := by decide +kernel
theorem d_Md_deliver_103 : decode b_Md_deliver 103 = .ok (.iload_n 3, 1) := by decide +kernel
theorem d_Md_deliver_104 : decode b_Md_deliver 104 = .ok (.istore 9, 2) := by decide +kernel
theorem d_Md_deliver_106 : decode b_Md_deliver 106 = .ok (.iload 9, 2) := by decide +kernel
theorem d_Md_deliver_108 : decode b_Md_deliver 108 = .ok (.iload_n 3, 1) := by decide +kernel
theorem d_Md_deliver_109 : decode b_Md_deliver 109 = .ok (.aload_n 0, 1) := by decide +kernel
theorem d_Md_deliver_110 : decode b_Md_deliver 110 = .ok (.getfield 56, 3) := by decide +kernel
theorem d_Md_deliver_113 : decode b_Md_deliver 113 = .ok (.iload_n 2, 1) := by decide +kernel
theorem d_Md_deliver_114 : decode b_Md_deliver 114 = .ok (.iaload, 1) := by decide +kernel
theorem d_Md_deliver_115 : decode b_Md_deliver 115 = .ok (.iadd, 1) := by decide +kernel
theorem d_Md_deliver_116 : decode b_Md_deliver 116 = .ok (.if_icmp .ge 105, 3) := by decide +kernel
theorem d_Md_deliver_119 : decode b_Md_deliver 119 = .ok (.aload_n 0, 1) := by decide +kernel
theorem d_Md_deliver_120 : decode b_Md_deliver 120 = .ok (.getfield 37, 3) := by decide +kernel
theorem d_Md_deliver_123 : decode b_Md_deliver 123 = .ok (.iload 9, 2) := by decide +kernel
theorem d_Md_deliver_125 : decode b_Md_deliver 125 = .ok (.aload_n 0, 1) := by decide +kernel
theorem d_Md_deliver_126 : decode b_Md_deliver 126 = .ok (.getfield 37, 3) := by decide +kernel
theorem d_Md_deliver_129 : decode b_Md_deliver 129 = .ok (.iload 9, 2) := by decide +kernel
theorem d_Md_deliver_131 : decode b_Md_deliver 131 = .ok (.iconst 1, 1) := by decide +kernel
theorem d_Md_deliver_132 : decode b_Md_deliver 132 = .ok (.iadd, 1) := by decide +kernel
theorem d_Md_deliver_133 : decode b_Md_deliver 133 = .ok (.iaload, 1) := by decide +kernel
theorem d_Md_deliver_134 : decode b_Md_deliver 134 = .ok (.iastore, 1) := by decide +kernel
theorem d_Md_deliver_135 : decode b_Md_deliver 135 = .ok (.aload_n 0, 1) := by decide +kernel
theorem d_Md_deliver_136 : decode b_Md_deliver 136 = .ok (.getfield 40, 3) := by decide +kernel
theorem d_Md_deliver_139 : decode b_Md_deliver 139 = .ok (.iload 9, 2) := by decide +kernel
theorem d_Md_deliver_141 : decode b_Md_deliver 141 = .ok (.aload_n 0, 1) := by decide +kernel
theorem d_Md_deliver_142 : decode b_Md_deliver 142 = .ok (.getfield 40, 3) := by decide +kernel
theorem d_Md_deliver_145 : decode b_Md_deliver 145 = .ok (.iload 9, 2) := by decide +kernel
theorem d_Md_deliver_147 : decode b_Md_deliver 147 = .ok (.iconst 1, 1) := by decide +kernel
theorem d_Md_deliver_148 : decode b_Md_deliver 148 = .ok (.iadd, 1) := by decide +kernel
theorem d_Md_deliver_149 : decode b_Md_deliver 149 = .ok (.iaload, 1) := by decide +kernel
theorem d_Md_deliver_150 : decode b_Md_deliver 150 = .ok (.iastore, 1) := by decide +kernel
theorem d_Md_deliver_151 : decode b_Md_deliver 151 = .ok (.aload_n 0, 1) := by decide +kernel
theorem d_Md_deliver_152 : decode b_Md_deliver 152 = .ok (.getfield 43, 3) := by decide +kernel
theorem d_Md_deliver_155 : decode b_Md_deliver 155 = .ok (.iload 9, 2) := by decide +kernel
theorem d_Md_deliver_157 : decode b_Md_deliver 157 = .ok (.aload_n 0, 1) := by decide +kernel
theorem d_Md_deliver_158 : decode b_Md_deliver 158 = .ok (.getfield 43, 3) := by decide +kernel
theorem d_Md_deliver_161 : decode b_Md_deliver 161 = .ok (.iload 9, 2) := by decide +kernel
theorem d_Md_deliver_163 : decode b_Md_deliver 163 = .ok (.iconst 1, 1) := by decide +kernel
theorem d_Md_deliver_164 : decode b_Md_deliver 164 = .ok (.iadd, 1) := by decide +kernel
theorem d_Md_deliver_165 : decode b_Md_deliver 165 = .ok (.iaload, 1) := by decide +kernel
theorem d_Md_deliver_166 : decode b_Md_deliver 166 = .ok (.iastore, 1) := by decide +kernel
theorem d_Md_deliver_167 : decode b_Md_deliver 167 = .ok (.aload_n 0, 1) := by decide +kernel
theorem d_Md_deliver_168 : decode b_Md_deliver 168 = .ok (.getfield 46, 3) := by decide +kernel
theorem d_Md_deliver_171 : decode b_Md_deliver 171 = .ok (.iload 9, 2) := by decide +kernel
theorem d_Md_deliver_173 : decode b_Md_deliver 173 = .ok (.aload_n 0, 1) := by decide +kernel
theorem d_Md_deliver_174 : decode b_Md_deliver 174 = .ok (.getfield 46, 3) := by decide +kernel
theorem d_Md_deliver_177 : decode b_Md_deliver 177 = .ok (.iload 9, 2) := by decide +kernel
theorem d_Md_deliver_179 : decode b_Md_deliver 179 = .ok (.iconst 1, 1) := by decide +kernel
theorem d_Md_deliver_180 : decode b_Md_deliver 180 = .ok (.iadd, 1) := by decide +kernel
theorem d_Md_deliver_181 : decode b_Md_deliver 181 = .ok (.iaload, 1) := by decide +kernel
theorem d_Md_deliver_182 : decode b_Md_deliver 182 = .ok (.iastore, 1) := by decide +kernel
theorem d_Md_deliver_183 : decode b_Md_deliver 183 = .ok (.aload_n 0, 1) := by decide +kernel
theorem d_Md_deliver_184 : decode b_Md_deliver 184 = .ok (.getfield 49, 3) := by decide +kernel
theorem d_Md_deliver_187 : decode b_Md_deliver 187 = .ok (.iload 9, 2) := by decide +kernel
theorem d_Md_deliver_189 : decode b_Md_deliver 189 = .ok (.aload_n 0, 1) := by decide +kernel
theorem d_Md_deliver_190 : decode b_Md_deliver 190 = .ok (.getfield 49, 3) := by decide +kernel
theorem d_Md_deliver_193 : decode b_Md_deliver 193 = .ok (.iload 9, 2) := by decide +kernel
theorem d_Md_deliver_195 : decode b_Md_deliver 195 = .ok (.iconst 1, 1) := by decide +kernel
theorem d_Md_deliver_196 : decode b_Md_deliver 196 = .ok (.iadd, 1) := by decide +kernel
theorem d_Md_deliver_197 : decode b_Md_deliver 197 = .ok (.iaload, 1) := by decide +kernel
theorem d_Md_deliver_198 : decode b_Md_deliver 198 = .ok (.iastore, 1) := by decide +kernel
theorem d_Md_deliver_199 : decode b_Md_deliver 199 = .ok (.aload_n 0, 1) := by decide +kernel
theorem d_Md_deliver_200 : decode b_Md_deliver 200 = .ok (.getfield 52, 3) := by decide +kernel
theorem d_Md_deliver_203 : decode b_Md_deliver 203 = .ok (.iload 9, 2) := by decide +kernel
theorem d_Md_deliver_205 : decode b_Md_deliver 205 = .ok (.aload_n 0, 1) := by decide +kernel
theorem d_Md_deliver_206 : decode b_Md_deliver 206 = .ok (.getfield 52, 3) := by decide +kernel
theorem d_Md_deliver_209 : decode b_Md_deliver 209 = .ok (.iload 9, 2) := by decide +kernel
theorem d_Md_deliver_211 : decode b_Md_deliver 211 = .ok (.iconst 1, 1) := by decide +kernel
theorem d_Md_deliver_212 : decode b_Md_deliver 212 = .ok (.iadd, 1) := by decide +kernel
theorem d_Md_deliver_213 : decode b_Md_deliver 213 = .ok (.baload, 1) := by decide +kernel
theorem d_Md_deliver_214 : decode b_Md_deliver 214 = .ok (.bastore, 1) := by decide +kernel
theorem d_Md_deliver_215 : decode b_Md_deliver 215 = .ok (.iinc 9 1, 3) := by decide +kernel
theorem d_Md_deliver_218 : decode b_Md_deliver 218 = .ok (.goto (-112), 3) := by decide +kernel
theorem d_Md_deliver_221 : decode b_Md_deliver 221 = .ok (.iload_n 1, 1) := by decide +kernel
theorem d_Md_deliver_222 : decode b_Md_deliver 222 = .ok (.ifCond .eq 16, 3) := by decide +kernel
theorem d_Md_deliver_225 : decode b_Md_deliver 225 = .ok (.aload_n 0, 1) := by decide +kernel
theorem d_Md_deliver_226 : decode b_Md_deliver 226 = .ok (.iload 4, 2) := by decide +kernel
theorem d_Md_deliver_228 : decode b_Md_deliver 228 = .ok (.iload 5, 2) := by decide +kernel
theorem d_Md_deliver_230 : decode b_Md_deliver 230 = .ok (.iload 6, 2) := by decide +kernel
theorem d_Md_deliver_232 : decode b_Md_deliver 232 = .ok (.invokevirtual 131, 3) := by decide +kernel
theorem d_Md_deliver_235 : decode b_Md_deliver 235 = .ok (.goto 17, 3) := by decide +kernel
theorem d_Md_deliver_238 : decode b_Md_deliver 238 = .ok (.aload_n 0, 1) := by decide +kernel
theorem d_Md_deliver_239 : decode b_Md_deliver 239 = .ok (.iload 4, 2) := by decide +kernel
theorem d_Md_deliver_241 : decode b_Md_deliver 241 = .ok (.iload 5, 2) := by decide +kernel
theorem d_Md_deliver_243 : decode b_Md_deliver 243 = .ok (.iload 6, 2) := by decide +kernel
theorem d_Md_deliver_245 : decode b_Md_deliver 245 = .ok (.iload 7, 2) := by decide +kernel
theorem d_Md_deliver_247 : decode b_Md_deliver 247 = .ok (.iload 8, 2) := by decide +kernel
theorem d_Md_deliver_249 : decode b_Md_deliver 249 = .ok (.invokevirtual 135, 3) := by decide +kernel
theorem d_Md_deliver_252 : decode b_Md_deliver 252 = .ok (.iload 5, 2) := by decide +kernel
theorem d_Md_deliver_254 : decode b_Md_deliver 254 = .ok (.ireturn, 1) := by decide +kernel
theorem d_Md_end_0 : decode b_Md_end 0 = .ok (.aload_n 0, 1) := by decide +kernel
theorem d_Md_end_1 : decode b_Md_end 1 = .ok (.iconst 0, 1) := by decide +kernel
theorem d_Md_end_2 : decode b_Md_end 2 = .ok (.putfield 59, 3) := by decide +kernel
theorem d_Md_end_5 : decode b_Md_end 5 = .ok (.aload_n 0, 1) := by decide +kernel
theorem d_Md_end_6 : decode b_Md_end 6 = .ok (.getfield 56, 3) := by decide +kernel
theorem d_Md_end_9 : decode b_Md_end 9 = .ok (.iconst 0, 1) := by decide +kernel
theorem d_Md_end_10 : decode b_Md_end 10 = .ok (.iconst 0, 1) := by decide +kernel
theorem d_Md_end_11 : decode b_Md_end 11 = .ok (.iastore, 1) := by decide +kernel
theorem d_Md_end_12 : decode b_Md_end 12 = .ok (.aload_n 0, 1) := by decide +kernel
theorem d_Md_end_13 : decode b_Md_end 13 = .ok (.getfield 56, 3) := by decide +kernel
theorem d_Md_end_16 : decode b_Md_end 16 = .ok (.iconst 1, 1) := by decide +kernel
theorem d_Md_end_17 : decode b_Md_end 17 = .ok (.iconst 0, 1) := by decide +kernel
theorem d_Md_end_18 : decode b_Md_end 18 = .ok (.iastore, 1) := by decide +kernel
theorem d_Md_end_19 : decode b_Md_end 19 = .ok (.iconst 0, 1) := by decide +kernel
theorem d_Md_end_20 : decode b_Md_end 20 = .ok (.istore_n 1, 1) := by decide +kernel
theorem d_Md_end_21 : decode b_Md_end 21 = .ok (.iload_n 1, 1) := by decide +kernel
theorem d_Md_end_22 : decode b_Md_end 22 = .ok (.aload_n 0, 1) := by decide +kernel
theorem d_Md_end_23 : decode b_Md_end 23 = .ok (.getfield 76, 3) := by decide +kernel
theorem d_Md_end_26 : decode b_Md_end 26 = .ok (.if_icmp .ge 26, 3) := by decide +kernel
theorem d_Md_end_29 : decode b_Md_end 29 = .ok (.aload_n 0, 1) := by decide +kernel
theorem d_Md_end_30 : decode b_Md_end 30 = .ok (.getfield 31, 3) := by decide +kernel
theorem d_Md_end_33 : decode b_Md_end 33 = .ok (.iload_n 1, 1) := by decide +kernel
theorem d_Md_end_34 : decode b_Md_end 34 = .ok (.iaload, 1) := by decide +kernel
theorem d_Md_end_35 : decode b_Md_end 35 = .ok (.iconst 1, 1) := by decide +kernel
theorem d_Md_end_36 : decode b_Md_end 36 = .ok (.if_icmp .ne 10, 3) := by decide +kernel
theorem d_Md_end_39 : decode b_Md_end 39 = .ok (.aload_n 0, 1) := by decide +kernel
theorem d_Md_end_40 : decode b_Md_end 40 = .ok (.getfield 31, 3) := by decide +kernel
theorem d_Md_end_43 : decode b_Md_end 43 = .ok (.iload_n 1, 1) := by decide +kernel
theorem d_Md_end_44 : decode b_Md_end 44 = .ok (.iconst 0, 1) := by decide +kernel
theorem d_Md_end_45 : decode b_Md_end 45 = .ok (.iastore, 1) := by decide +kernel
theorem d_Md_end_46 : decode b_Md_end 46 = .ok (.iinc 1 1, 3) := by decide +kernel
theorem d_Md_end_49 : decode b_Md_end 49 = .ok (.goto (-28), 3) := by decide +kernel
theorem d_Md_end_52 : decode b_Md_end 52 = .ok (.return_, 1) := by decide +kernel
theorem d_Md_work_0 : decode b_Md_work 0 = .ok (.aload_n 0, 1) := by decide +kernel
theorem d_Md_work_1 : decode b_Md_work 1 = .ok (.getfield 19, 3) := by decide +kernel
theorem d_Md_work_4 : decode b_Md_work 4 = .ok (.iload_n 1, 1) := by decide +kernel
theorem d_Md_work_5 : decode b_Md_work 5 = .ok (.iaload, 1) := by decide +kernel
theorem d_Md_work_6 : decode b_Md_work 6 = .ok (.ifCond .ne 46, 3) := by decide +kernel
theorem d_Md_work_9 : decode b_Md_work 9 = .ok (.iload_n 2, 1) := by decide +kernel
theorem d_Md_work_10 : decode b_Md_work 10 = .ok (.ifCond .ne 7, 3) := by decide +kernel
theorem d_Md_work_13 : decode b_Md_work 13 = .ok (.iconst 1, 1) := by decide +kernel
theorem d_Md_work_14 : decode b_Md_work 14 = .ok (.goto 6, 3) := by decide +kernel
theorem d_Md_work_17 : decode b_Md_work 17 = .ok (.iload_n 3, 1) := by decide +kernel
theorem d_Md_work_18 : decode b_Md_work 18 = .ok (.iconst 1, 1) := by decide +kernel
theorem d_Md_work_19 : decode b_Md_work 19 = .ok (.iadd, 1) := by decide +kernel
theorem d_Md_work_20 : decode b_Md_work 20 = .ok (.istore 4, 2) := by decide +kernel
theorem d_Md_work_22 : decode b_Md_work 22 = .ok (.iload 4, 2) := by decide +kernel
theorem d_Md_work_24 : decode b_Md_work 24 = .ok (.aload_n 0, 1) := by decide +kernel
theorem d_Md_work_25 : decode b_Md_work 25 = .ok (.getfield 25, 3) := by decide +kernel
theorem d_Md_work_28 : decode b_Md_work 28 = .ok (.iload_n 1, 1) := by decide +kernel
theorem d_Md_work_29 : decode b_Md_work 29 = .ok (.iaload, 1) := by decide +kernel
theorem d_Md_work_30 : decode b_Md_work 30 = .ok (.if_icmp .lt 11, 3) := by decide +kernel
theorem d_Md_work_33 : decode b_Md_work 33 = .ok (.aload_n 0, 1) := by decide +kernel
theorem d_Md_work_34 : decode b_Md_work 34 = .ok (.iload_n 1, 1) := by decide +kernel
theorem d_Md_work_35 : decode b_Md_work 35 = .ok (.invokevirtual 122, 3) := by decide +kernel
theorem d_Md_work_38 : decode b_Md_work 38 = .ok (.goto 13, 3) := by decide +kernel
theorem d_Md_work_41 : decode b_Md_work 41 = .ok (.aload_n 0, 1) := by decide +kernel
theorem d_Md_work_42 : decode b_Md_work 42 = .ok (.iconst 1, 1) := by decide +kernel
theorem d_Md_work_43 : decode b_Md_work 43 = .ok (.iload_n 1, 1) := by decide +kernel
theorem d_Md_work_44 : decode b_Md_work 44 = .ok (.iconst 2, 1) := by decide +kernel
theorem d_Md_work_45 : decode b_Md_work 45 = .ok (.iload 4, 2) := by decide +kernel
theorem d_Md_work_47 : decode b_Md_work 47 = .ok (.iconst 0, 1) := by decide +kernel
theorem d_Md_work_48 : decode b_Md_work 48 = .ok (.invokevirtual 110, 3) := by decide +kernel
theorem d_Md_work_51 : decode b_Md_work 51 = .ok (.return_, 1) := by decide +kernel
theorem d_Md_work_52 : decode b_Md_work 52 = .ok (.aload_n 0, 1) := by decide +kernel
theorem d_Md_work_53 : decode b_Md_work 53 = .ok (.getfield 19, 3) := by decide +kernel
theorem d_Md_work_56 : decode b_Md_work 56 = .ok (.iload_n 1, 1) := by decide +kernel
theorem d_Md_work_57 : decode b_Md_work 57 = .ok (.iaload, 1) := by decide +kernel
theorem d_Md_work_58 : decode b_Md_work 58 = .ok (.iconst 1, 1) := by decide +kernel
theorem d_Md_work_59 : decode b_Md_work 59 = .ok (.if_icmp .ne 48, 3) := by decide +kernel
theorem d_Md_work_62 : decode b_Md_work 62 = .ok (.iconst 0, 1) := by decide +kernel
theorem d_Md_work_63 : decode b_Md_work 63 = .ok (.istore 4, 2) := by decide +kernel
theorem d_Md_work_65 : decode b_Md_work 65 = .ok (.iload 4, 2) := by decide +kernel
theorem d_Md_work_67 : decode b_Md_work 67 = .ok (.aload_n 0, 1) := by decide +kernel
theorem d_Md_work_68 : decode b_Md_work 68 = .ok (.getfield 25, 3) := by decide +kernel
theorem d_Md_work_71 : decode b_Md_work 71 = .ok (.iload_n 1, 1) := by decide +kernel
theorem d_Md_work_72 : decode b_Md_work 72 = .ok (.iaload, 1) := by decide +kernel
theorem d_Md_work_73 : decode b_Md_work 73 = .ok (.if_icmp .ge 31, 3) := by decide +kernel
theorem d_Md_work_76 : decode b_Md_work 76 = .ok (.aload_n 0, 1) := by decide +kernel
theorem d_Md_work_77 : decode b_Md_work 77 = .ok (.iconst 1, 1) := by decide +kernel
theorem d_Md_work_78 : decode b_Md_work 78 = .ok (.iload_n 1, 1) := by decide +kernel
theorem d_Md_work_79 : decode b_Md_work 79 = .ok (.iconst 3, 1) := by decide +kernel
theorem d_Md_work_80 : decode b_Md_work 80 = .ok (.iload 4, 2) := by decide +kernel
theorem d_Md_work_82 : decode b_Md_work 82 = .ok (.aload_n 0, 1) := by decide +kernel
theorem d_Md_work_83 : decode b_Md_work 83 = .ok (.aload_n 0, 1) := by decide +kernel
theorem d_Md_work_84 : decode b_Md_work 84 = .ok (.getfield 22, 3) := by decide +kernel
theorem d_Md_work_87 : decode b_Md_work 87 = .ok (.iload_n 1, 1) := by decide +kernel
theorem d_Md_work_88 : decode b_Md_work 88 = .ok (.iaload, 1) := by decide +kernel
theorem d_Md_work_89 : decode b_Md_work 89 = .ok (.iload 4, 2) := by decide +kernel
theorem d_Md_work_91 : decode b_Md_work 91 = .ok (.iadd, 1) := by decide +kernel
theorem d_Md_work_92 : decode b_Md_work 92 = .ok (.invokevirtual 125, 3) := by decide +kernel
theorem d_Md_work_95 : decode b_Md_work 95 = .ok (.invokevirtual 110, 3) := by decide +kernel
theorem d_Md_work_98 : decode b_Md_work 98 = .ok (.iinc 4 1, 3) := by decide +kernel
theorem d_Md_work_101 : decode b_Md_work 101 = .ok (.goto (-36), 3) := by decide +kernel
theorem d_Md_work_104 : decode b_Md_work 104 = .ok (.goto 28, 3) := by decide +kernel
theorem d_Md_work_107 : decode b_Md_work 107 = .ok (.iconst 0, 1) := by decide +kernel
theorem d_Md_work_108 : decode b_Md_work 108 = .ok (.istore 4, 2) := by decide +kernel
theorem d_Md_work_110 : decode b_Md_work 110 = .ok (.iconst 0, 1) := by decide +kernel
theorem d_Md_work_111 : decode b_Md_work 111 = .ok (.istore 5, 2) := by decide +kernel
theorem d_Md_work_113 : decode b_Md_work 113 = .ok (.iload 5, 2) := by decide +kernel
theorem d_Md_work_115 : decode b_Md_work 115 = .ok (.bipush 16, 2) := by decide +kernel
theorem d_Md_work_117 : decode b_Md_work 117 = .ok (.if_icmp .ge 15, 3) := by decide +kernel
theorem d_Md_work_120 : decode b_Md_work 120 = .ok (.aload_n 0, 1) := by decide +kernel
theorem d_Md_work_121 : decode b_Md_work 121 = .ok (.invokevirtual 98, 3) := by decide +kernel
theorem d_Md_work_124 : decode b_Md_work 124 = .ok (.istore 4, 2) := by decide +kernel
theorem d_Md_work_126 : decode b_Md_work 126 = .ok (.iinc 5 1, 3) := by decide +kernel
theorem d_Md_work_129 : decode b_Md_work 129 = .ok (.goto (-16), 3) := by decide +kernel
theorem d_Md_work_132 : decode b_Md_work 132 = .ok (.aload_n 0, 1) := by decide +kernel
theorem d_Md_work_133 : decode b_Md_work 133 = .ok (.iload_n 1, 1) := by decide +kernel
theorem d_Md_work_134 : decode b_Md_work 134 = .ok (.invokevirtual 118, 3) := by decide +kernel
theorem d_Md_work_137 : decode b_Md_work 137 = .ok (.return_, 1) := by decide +kernel
theorem d_Md_putAll_0 : decode b_Md_putAll 0 = .ok (.iconst 0, 1) := by decide +kernel
theorem d_Md_putAll_1 : decode b_Md_putAll 1 = .ok (.istore_n 2, 1) := by decide +kernel
theorem d_Md_putAll_2 : decode b_Md_putAll 2 = .ok (.iload_n 2, 1) := by decide +kernel
theorem d_Md_putAll_3 : decode b_Md_putAll 3 = .ok (.aload_n 0, 1) := by decide +kernel
theorem d_Md_putAll_4 : decode b_Md_putAll 4 = .ok (.getfield 25, 3) := by decide +kernel
theorem d_Md_putAll_7 : decode b_Md_putAll 7 = .ok (.iload_n 1, 1) := by decide +kernel
theorem d_Md_putAll_8 : decode b_Md_putAll 8 = .ok (.iaload, 1) := by decide +kernel
theorem d_Md_putAll_9 : decode b_Md_putAll 9 = .ok (.if_icmp .ge 29, 3) := by decide +kernel
theorem d_Md_putAll_12 : decode b_Md_putAll 12 = .ok (.aload_n 0, 1) := by decide +kernel
theorem d_Md_putAll_13 : decode b_Md_putAll 13 = .ok (.aload_n 0, 1) := by decide +kernel
theorem d_Md_putAll_14 : decode b_Md_putAll 14 = .ok (.getfield 22, 3) := by decide +kernel
theorem d_Md_putAll_17 : decode b_Md_putAll 17 = .ok (.iload_n 1, 1) := by decide +kernel
theorem d_Md_putAll_18 : decode b_Md_putAll 18 = .ok (.iaload, 1) := by decide +kernel
theorem d_Md_putAll_19 : decode b_Md_putAll 19 = .ok (.iload_n 2, 1) := by decide +kernel
theorem d_Md_putAll_20 : decode b_Md_putAll 20 = .ok (.iadd, 1) := by decide +kernel
theorem d_Md_putAll_21 : decode b_Md_putAll 21 = .ok (.aload_n 0, 1) := by decide +kernel
theorem d_Md_putAll_22 : decode b_Md_putAll 22 = .ok (.getfield 28, 3) := by decide +kernel
theorem d_Md_putAll_25 : decode b_Md_putAll 25 = .ok (.iload_n 1, 1) := by decide +kernel
theorem d_Md_putAll_26 : decode b_Md_putAll 26 = .ok (.iaload, 1) := by decide +kernel
theorem d_Md_putAll_27 : decode b_Md_putAll 27 = .ok (.iload_n 2, 1) := by decide +kernel
theorem d_Md_putAll_28 : decode b_Md_putAll 28 = .ok (.iadd, 1) := by decide +kernel
theorem d_Md_putAll_29 : decode b_Md_putAll 29 = .ok (.invokevirtual 114, 3) := by decide +kernel
theorem d_Md_putAll_32 : decode b_Md_putAll 32 = .ok (.iinc 2 1, 3) := by decide +kernel
theorem d_Md_putAll_35 : decode b_Md_putAll 35 = .ok (.goto (-33), 3) := by decide +kernel
theorem d_Md_putAll_38 : decode b_Md_putAll 38 = .ok (.aload_n 0, 1) := by decide +kernel
theorem d_Md_putAll_39 : decode b_Md_putAll 39 = .ok (.iload_n 1, 1) := by decide +kernel
theorem d_Md_putAll_40 : decode b_Md_putAll 40 = .ok (.invokevirtual 118, 3) := by decide +kernel
theorem d_Md_putAll_43 : decode b_Md_putAll 43 = .ok (.return_, 1) := by decide +kernel
theorem d_Md_put_0 : decode b_Md_put 0 = .ok (.aload_n 0, 1) := by decide +kernel
theorem d_Md_put_1 : decode b_Md_put 1 = .ok (.getfield 13, 3) := by decide +kernel
theorem d_Md_put_4 : decode b_Md_put 4 = .ok (.iload_n 1, 1) := by decide +kernel
theorem d_Md_put_5 : decode b_Md_put 5 = .ok (.iload_n 2, 1) := by decide +kernel
theorem d_Md_put_6 : decode b_Md_put 6 = .ok (.iastore, 1) := by decide +kernel
theorem d_Md_put_7 : decode b_Md_put 7 = .ok (.aload_n 0, 1) := by decide +kernel
theorem d_Md_put_8 : decode b_Md_put 8 = .ok (.getfield 16, 3) := by decide +kernel
theorem d_Md_put_11 : decode b_Md_put 11 = .ok (.iload_n 1, 1) := by decide +kernel
theorem d_Md_put_12 : decode b_Md_put 12 = .ok (.iaload, 1) := by decide +kernel
theorem d_Md_put_13 : decode b_Md_put 13 = .ok (.ifCond .le 4, 3) := by decide +kernel
theorem d_Md_put_16 : decode b_Md_put 16 = .ok (.return_, 1) := by decide +kernel
theorem d_Md_put_17 : decode b_Md_put 17 = .ok (.aload_n 0, 1) := by decide +kernel
theorem d_Md_put_18 : decode b_Md_put 18 = .ok (.dup, 1) := by decide +kernel
theorem d_Md_put_19 : decode b_Md_put 19 = .ok (.getfield 91, 3) := by decide +kernel
theorem d_Md_put_22 : decode b_Md_put 22 = .ok (.iconst 1, 1) := by decide +kernel
theorem d_Md_put_23 : decode b_Md_put 23 = .ok (.iadd, 1) := by decide +kernel
theorem d_Md_put_24 : decode b_Md_put 24 = .ok (.putfield 91, 3) := by decide +kernel
theorem d_Md_put_27 : decode b_Md_put 27 = .ok (.aload_n 0, 1) := by decide +kernel
theorem d_Md_put_28 : decode b_Md_put 28 = .ok (.getfield 16, 3) := by decide +kernel
theorem d_Md_put_31 : decode b_Md_put 31 = .ok (.iload_n 1, 1) := by decide +kernel
theorem d_Md_put_32 : decode b_Md_put 32 = .ok (.aload_n 0, 1) := by decide +kernel
theorem d_Md_put_33 : decode b_Md_put 33 = .ok (.getfield 91, 3) := by decide +kernel
theorem d_Md_put_36 : decode b_Md_put 36 = .ok (.iastore, 1) := by decide +kernel
theorem d_Md_put_37 : decode b_Md_put 37 = .ok (.aload_n 0, 1) := by decide +kernel
theorem d_Md_put_38 : decode b_Md_put 38 = .ok (.invokevirtual 94, 3) := by decide +kernel
theorem d_Md_put_41 : decode b_Md_put 41 = .ok (.aload_n 0, 1) := by decide +kernel
theorem d_Md_put_42 : decode b_Md_put 42 = .ok (.getfield 70, 3) := by decide +kernel
theorem d_Md_put_45 : decode b_Md_put 45 = .ok (.if_icmp .le 10, 3) := by decide +kernel
theorem d_Md_put_48 : decode b_Md_put 48 = .ok (.aload_n 0, 1) := by decide +kernel
theorem d_Md_put_49 : decode b_Md_put 49 = .ok (.invokevirtual 98, 3) := by decide +kernel
theorem d_Md_put_52 : decode b_Md_put 52 = .ok (.goto 4, 3) := by decide +kernel
theorem d_Md_put_55 : decode b_Md_put 55 = .ok (.iconst 0, 1) := by decide +kernel
theorem d_Md_put_56 : decode b_Md_put 56 = .ok (.istore_n 3, 1) := by decide +kernel
theorem d_Md_put_57 : decode b_Md_put 57 = .ok (.return_, 1) := by decide +kernel
theorem d_Md_size_0 : decode b_Md_size 0 = .ok (.iconst 0, 1) := by decide +kernel
theorem d_Md_size_1 : decode b_Md_size 1 = .ok (.istore_n 1, 1) := by decide +kernel
theorem d_Md_size_2 : decode b_Md_size 2 = .ok (.iconst 0, 1) := by decide +kernel
theorem d_Md_size_3 : decode b_Md_size 3 = .ok (.istore_n 2, 1) := by decide +kernel
theorem d_Md_size_4 : decode b_Md_size 4 = .ok (.iload_n 2, 1) := by decide +kernel
theorem d_Md_size_5 : decode b_Md_size 5 = .ok (.bipush 16, 2) := by decide +kernel
theorem d_Md_size_7 : decode b_Md_size 7 = .ok (.if_icmp .ge 21, 3) := by decide +kernel
theorem d_Md_size_10 : decode b_Md_size 10 = .ok (.aload_n 0, 1) := by decide +kernel
theorem d_Md_size_11 : decode b_Md_size 11 = .ok (.getfield 16, 3) := by decide +kernel
theorem d_Md_size_14 : decode b_Md_size 14 = .ok (.iload_n 2, 1) := by decide +kernel
theorem d_Md_size_15 : decode b_Md_size 15 = .ok (.iaload, 1) := by decide +kernel
theorem d_Md_size_16 : decode b_Md_size 16 = .ok (.ifCond .le 6, 3) := by decide +kernel
theorem d_Md_size_19 : decode b_Md_size 19 = .ok (.iinc 1 1, 3) := by decide +kernel
theorem d_Md_size_22 : decode b_Md_size 22 = .ok (.iinc 2 1, 3) := by decide +kernel
theorem d_Md_size_25 : decode b_Md_size 25 = .ok (.goto (-21), 3) := by decide +kernel
theorem d_Md_size_28 : decode b_Md_size 28 = .ok (.iload_n 1, 1) := by decide +kernel
theorem d_Md_size_29 : decode b_Md_size 29 = .ok (.ireturn, 1) := by decide +kernel
theorem d_Md_finish_0 : decode b_Md_finish 0 = .ok (.aload_n 0, 1) := by decide +kernel
theorem d_Md_finish_1 : decode b_Md_finish 1 = .ok (.dup, 1) := by decide +kernel
theorem d_Md_finish_2 : decode b_Md_finish 2 = .ok (.getfield 101, 3) := by decide +kernel
theorem d_Md_finish_5 : decode b_Md_finish 5 = .ok (.iconst 1, 1) := by decide +kernel
theorem d_Md_finish_6 : decode b_Md_finish 6 = .ok (.iadd, 1) := by decide +kernel
theorem d_Md_finish_7 : decode b_Md_finish 7 = .ok (.putfield 101, 3) := by decide +kernel
theorem d_Md_finish_10 : decode b_Md_finish 10 = .ok (.aload_n 0, 1) := by decide +kernel
theorem d_Md_finish_11 : decode b_Md_finish 11 = .ok (.iconst 1, 1) := by decide +kernel
theorem d_Md_finish_12 : decode b_Md_finish 12 = .ok (.iload_n 1, 1) := by decide +kernel
theorem d_Md_finish_13 : decode b_Md_finish 13 = .ok (.iconst 4, 1) := by decide +kernel
theorem d_Md_finish_14 : decode b_Md_finish 14 = .ok (.iconst 0, 1) := by decide +kernel
theorem d_Md_finish_15 : decode b_Md_finish 15 = .ok (.iconst 0, 1) := by decide +kernel
theorem d_Md_finish_16 : decode b_Md_finish 16 = .ok (.invokevirtual 110, 3) := by decide +kernel
theorem d_Md_finish_19 : decode b_Md_finish 19 = .ok (.return_, 1) := by decide +kernel
theorem d_Md_valueOf_0 : decode b_Md_valueOf 0 = .ok (.aload_n 0, 1) := by decide +kernel
theorem d_Md_valueOf_1 : decode b_Md_valueOf 1 = .ok (.getfield 16, 3) := by decide +kernel
theorem d_Md_valueOf_4 : decode b_Md_valueOf 4 = .ok (.iload_n 1, 1) := by decide +kernel
theorem d_Md_valueOf_5 : decode b_Md_valueOf 5 = .ok (.iaload, 1) := by decide +kernel
theorem d_Md_valueOf_6 : decode b_Md_valueOf 6 = .ok (.ifCond .le 12, 3) := by decide +kernel
theorem d_Md_valueOf_9 : decode b_Md_valueOf 9 = .ok (.aload_n 0, 1) := by decide +kernel
theorem d_Md_valueOf_10 : decode b_Md_valueOf 10 = .ok (.getfield 13, 3) := by decide +kernel
theorem d_Md_valueOf_13 : decode b_Md_valueOf 13 = .ok (.iload_n 1, 1) := by decide +kernel
theorem d_Md_valueOf_14 : decode b_Md_valueOf 14 = .ok (.iaload, 1) := by decide +kernel
theorem d_Md_valueOf_15 : decode b_Md_valueOf 15 = .ok (.goto 9, 3) := by decide +kernel
theorem d_Md_valueOf_18 : decode b_Md_valueOf 18 = .ok (.aload_n 0, 1) := by decide +kernel
theorem d_Md_valueOf_19 : decode b_Md_valueOf 19 = .ok (.getfield 7, 3) := by decide +kernel
theorem d_Md_valueOf_22 : decode b_Md_valueOf 22 = .ok (.iload_n 1, 1) := by decide +kernel
theorem d_Md_valueOf_23 : decode b_Md_valueOf 23 = .ok (.iaload, 1) := by decide +kernel
theorem d_Md_valueOf_24 : decode b_Md_valueOf 24 = .ok (.ireturn, 1) := by decide +kernel
theorem d_Md_take_0 : decode b_Md_take 0 = .ok (.iload 5, 2) := by decide +kernel
theorem d_Md_take_2 : decode b_Md_take 2 = .ok (.aload_n 0, 1) := by decide +kernel
theorem d_Md_take_3 : decode b_Md_take 3 = .ok (.getfield 73, 3) := by decide +kernel
theorem d_Md_take_6 : decode b_Md_take 6 = .ok (.if_icmp .le 9, 3) := by decide +kernel
theorem d_Md_take_9 : decode b_Md_take 9 = .ok (.aload_n 0, 1) := by decide +kernel
theorem d_Md_take_10 : decode b_Md_take 10 = .ok (.iload 5, 2) := by decide +kernel
theorem d_Md_take_12 : decode b_Md_take 12 = .ok (.putfield 73, 3) := by decide +kernel
theorem d_Md_take_15 : decode b_Md_take 15 = .ok (.iload_n 2, 1) := by decide +kernel
theorem d_Md_take_16 : decode b_Md_take 16 = .ok (.iconst 2, 1) := by decide +kernel
theorem d_Md_take_17 : decode b_Md_take 17 = .ok (.if_icmp .ne 12, 3) := by decide +kernel
theorem d_Md_take_20 : decode b_Md_take 20 = .ok (.aload_n 0, 1) := by decide +kernel
theorem d_Md_take_21 : decode b_Md_take 21 = .ok (.iconst 0, 1) := by decide +kernel
theorem d_Md_take_22 : decode b_Md_take 22 = .ok (.iload_n 1, 1) := by decide +kernel
theorem d_Md_take_23 : decode b_Md_take 23 = .ok (.iconst 1, 1) := by decide +kernel
theorem d_Md_take_24 : decode b_Md_take 24 = .ok (.iload_n 3, 1) := by decide +kernel
theorem d_Md_take_25 : decode b_Md_take 25 = .ok (.iconst 0, 1) := by decide +kernel
theorem d_Md_take_26 : decode b_Md_take 26 = .ok (.invokevirtual 110, 3) := by decide +kernel
theorem d_Md_take_29 : decode b_Md_take 29 = .ok (.iload_n 2, 1) := by decide +kernel
theorem d_Md_take_30 : decode b_Md_take 30 = .ok (.iconst 3, 1) := by decide +kernel
theorem d_Md_take_31 : decode b_Md_take 31 = .ok (.if_icmp .ne 15, 3) := by decide +kernel
theorem d_Md_take_34 : decode b_Md_take 34 = .ok (.aload_n 0, 1) := by decide +kernel
theorem d_Md_take_35 : decode b_Md_take 35 = .ok (.getfield 34, 3) := by decide +kernel
theorem d_Md_take_38 : decode b_Md_take 38 = .ok (.iload_n 1, 1) := by decide +kernel
theorem d_Md_take_39 : decode b_Md_take 39 = .ok (.iconst 3, 1) := by decide +kernel
theorem d_Md_take_40 : decode b_Md_take 40 = .ok (.imul, 1) := by decide +kernel
theorem d_Md_take_41 : decode b_Md_take 41 = .ok (.iload_n 3, 1) := by decide +kernel
theorem d_Md_take_42 : decode b_Md_take 42 = .ok (.iadd, 1) := by decide +kernel
theorem d_Md_take_43 : decode b_Md_take 43 = .ok (.iload 4, 2) := by decide +kernel
theorem d_Md_take_45 : decode b_Md_take 45 = .ok (.iastore, 1) := by decide +kernel
theorem d_Md_take_46 : decode b_Md_take 46 = .ok (.iload_n 2, 1) := by decide +kernel
theorem d_Md_take_47 : decode b_Md_take 47 = .ok (.iconst 4, 1) := by decide +kernel
theorem d_Md_take_48 : decode b_Md_take 48 = .ok (.if_icmp .ne 10, 3) := by decide +kernel
end
section
theorem d_Md_take_51 : decode b_Md_take 51 = .ok (.aload_n 0, 1) := by decide +kernel
theorem d_Md_take_52 : decode b_Md_take 52 = .ok (.getfield 31, 3) := by decide +kernel
theorem d_Md_take_55 : decode b_Md_take 55 = .ok (.iload_n 1, 1) := by decide +kernel
theorem d_Md_take_56 : decode b_Md_take 56 = .ok (.iconst 2, 1) := by decide +kernel
theorem d_Md_take_57 : decode b_Md_take 57 = .ok (.iastore, 1) := by decide +kernel
theorem d_Md_take_58 : decode b_Md_take 58 = .ok (.return_, 1) := by decide +kernel
theorem d_Md_damage_0 : decode b_Md_damage 0 = .ok (.iload_n 1, 1) := by decide +kernel
theorem d_Md_damage_1 : decode b_Md_damage 1 = .ok (.ifCond .eq 7, 3) := by decide +kernel
theorem d_Md_damage_4 : decode b_Md_damage 4 = .ok (.iconst 0, 1) := by decide +kernel
theorem d_Md_damage_5 : decode b_Md_damage 5 = .ok (.goto 4, 3) := by decide +kernel
theorem d_Md_damage_8 : decode b_Md_damage 8 = .ok (.iconst 1, 1) := by decide +kernel
theorem d_Md_damage_9 : decode b_Md_damage 9 = .ok (.istore_n 3, 1) := by decide +kernel
theorem d_Md_damage_10 : decode b_Md_damage 10 = .ok (.iload_n 2, 1) := by decide +kernel
theorem d_Md_damage_11 : decode b_Md_damage 11 = .ok (.ifCond .lt 13, 3) := by decide +kernel
theorem d_Md_damage_14 : decode b_Md_damage 14 = .ok (.iload_n 2, 1) := by decide +kernel
theorem d_Md_damage_15 : decode b_Md_damage 15 = .ok (.aload_n 0, 1) := by decide +kernel
theorem d_Md_damage_16 : decode b_Md_damage 16 = .ok (.getfield 56, 3) := by decide +kernel
theorem d_Md_damage_19 : decode b_Md_damage 19 = .ok (.iload_n 3, 1) := by decide +kernel
theorem d_Md_damage_20 : decode b_Md_damage 20 = .ok (.iaload, 1) := by decide +kernel
theorem d_Md_damage_21 : decode b_Md_damage 21 = .ok (.if_icmp .lt 6, 3) := by decide +kernel
theorem d_Md_damage_24 : decode b_Md_damage 24 = .ok (.bipush (-3), 2) := by decide +kernel
theorem d_Md_damage_26 : decode b_Md_damage 26 = .ok (.ireturn, 1) := by decide +kernel
theorem d_Md_damage_27 : decode b_Md_damage 27 = .ok (.aload_n 0, 1) := by decide +kernel
theorem d_Md_damage_28 : decode b_Md_damage 28 = .ok (.getfield 52, 3) := by decide +kernel
theorem d_Md_damage_31 : decode b_Md_damage 31 = .ok (.iload_n 3, 1) := by decide +kernel
theorem d_Md_damage_32 : decode b_Md_damage 32 = .ok (.bipush 64, 2) := by decide +kernel
theorem d_Md_damage_34 : decode b_Md_damage 34 = .ok (.imul, 1) := by decide +kernel
theorem d_Md_damage_35 : decode b_Md_damage 35 = .ok (.iload_n 2, 1) := by decide +kernel
theorem d_Md_damage_36 : decode b_Md_damage 36 = .ok (.iadd, 1) := by decide +kernel
theorem d_Md_damage_37 : decode b_Md_damage 37 = .ok (.iconst 1, 1) := by decide +kernel
theorem d_Md_damage_38 : decode b_Md_damage 38 = .ok (.bastore, 1) := by decide +kernel
theorem d_Md_damage_39 : decode b_Md_damage 39 = .ok (.iconst 0, 1) := by decide +kernel
theorem d_Md_damage_40 : decode b_Md_damage 40 = .ok (.ireturn, 1) := by decide +kernel
theorem d_Md_drop_0 : decode b_Md_drop 0 = .ok (.aload_n 0, 1) := by decide +kernel
theorem d_Md_drop_1 : decode b_Md_drop 1 = .ok (.getfield 59, 3) := by decide +kernel
theorem d_Md_drop_4 : decode b_Md_drop 4 = .ok (.ifCond .ne 6, 3) := by decide +kernel
theorem d_Md_drop_7 : decode b_Md_drop 7 = .ok (.bipush (-4), 2) := by decide +kernel
theorem d_Md_drop_9 : decode b_Md_drop 9 = .ok (.ireturn, 1) := by decide +kernel
theorem d_Md_drop_10 : decode b_Md_drop 10 = .ok (.aload_n 0, 1) := by decide +kernel
theorem d_Md_drop_11 : decode b_Md_drop 11 = .ok (.invokevirtual 128, 3) := by decide +kernel
theorem d_Md_drop_14 : decode b_Md_drop 14 = .ok (.iconst 0, 1) := by decide +kernel
theorem d_Md_drop_15 : decode b_Md_drop 15 = .ok (.ireturn, 1) := by decide +kernel
theorem d_Md_crash_0 : decode b_Md_crash 0 = .ok (.aload_n 0, 1) := by decide +kernel
theorem d_Md_crash_1 : decode b_Md_crash 1 = .ok (.getfield 59, 3) := by decide +kernel
theorem d_Md_crash_4 : decode b_Md_crash 4 = .ok (.ifCond .eq 7, 3) := by decide +kernel
theorem d_Md_crash_7 : decode b_Md_crash 7 = .ok (.aload_n 0, 1) := by decide +kernel
theorem d_Md_crash_8 : decode b_Md_crash 8 = .ok (.invokevirtual 128, 3) := by decide +kernel
theorem d_Md_crash_11 : decode b_Md_crash 11 = .ok (.iconst 0, 1) := by decide +kernel
theorem d_Md_crash_12 : decode b_Md_crash 12 = .ok (.istore_n 1, 1) := by decide +kernel
theorem d_Md_crash_13 : decode b_Md_crash 13 = .ok (.iload_n 1, 1) := by decide +kernel
theorem d_Md_crash_14 : decode b_Md_crash 14 = .ok (.bipush 16, 2) := by decide +kernel
theorem d_Md_crash_16 : decode b_Md_crash 16 = .ok (.if_icmp .ge 16, 3) := by decide +kernel
theorem d_Md_crash_19 : decode b_Md_crash 19 = .ok (.aload_n 0, 1) := by decide +kernel
theorem d_Md_crash_20 : decode b_Md_crash 20 = .ok (.getfield 16, 3) := by decide +kernel
theorem d_Md_crash_23 : decode b_Md_crash 23 = .ok (.iload_n 1, 1) := by decide +kernel
theorem d_Md_crash_24 : decode b_Md_crash 24 = .ok (.iconst 0, 1) := by decide +kernel
theorem d_Md_crash_25 : decode b_Md_crash 25 = .ok (.iastore, 1) := by decide +kernel
theorem d_Md_crash_26 : decode b_Md_crash 26 = .ok (.iinc 1 1, 3) := by decide +kernel
theorem d_Md_crash_29 : decode b_Md_crash 29 = .ok (.goto (-16), 3) := by decide +kernel
theorem d_Md_crash_32 : decode b_Md_crash 32 = .ok (.iconst 0, 1) := by decide +kernel
theorem d_Md_crash_33 : decode b_Md_crash 33 = .ok (.ireturn, 1) := by decide +kernel
theorem d_Md_login_0 : decode b_Md_login 0 = .ok (.aload_n 0, 1) := by decide +kernel
theorem d_Md_login_1 : decode b_Md_login 1 = .ok (.getfield 59, 3) := by decide +kernel
theorem d_Md_login_4 : decode b_Md_login 4 = .ok (.ifCond .eq 5, 3) := by decide +kernel
theorem d_Md_login_7 : decode b_Md_login 7 = .ok (.iconst (-1), 1) := by decide +kernel
theorem d_Md_login_8 : decode b_Md_login 8 = .ok (.ireturn, 1) := by decide +kernel
theorem d_Md_login_9 : decode b_Md_login 9 = .ok (.aload_n 0, 1) := by decide +kernel
theorem d_Md_login_10 : decode b_Md_login 10 = .ok (.iconst 1, 1) := by decide +kernel
theorem d_Md_login_11 : decode b_Md_login 11 = .ok (.putfield 59, 3) := by decide +kernel
theorem d_Md_login_14 : decode b_Md_login 14 = .ok (.aload_n 0, 1) := by decide +kernel
theorem d_Md_login_15 : decode b_Md_login 15 = .ok (.iconst 0, 1) := by decide +kernel
theorem d_Md_login_16 : decode b_Md_login 16 = .ok (.putfield 107, 3) := by decide +kernel
theorem d_Md_login_19 : decode b_Md_login 19 = .ok (.aload_n 0, 1) := by decide +kernel
theorem d_Md_login_20 : decode b_Md_login 20 = .ok (.iconst 0, 1) := by decide +kernel
theorem d_Md_login_21 : decode b_Md_login 21 = .ok (.putfield 101, 3) := by decide +kernel
theorem d_Md_login_24 : decode b_Md_login 24 = .ok (.aload_n 0, 1) := by decide +kernel
theorem d_Md_login_25 : decode b_Md_login 25 = .ok (.aload_n 0, 1) := by decide +kernel
theorem d_Md_login_26 : decode b_Md_login 26 = .ok (.getfield 67, 3) := by decide +kernel
theorem d_Md_login_29 : decode b_Md_login 29 = .ok (.putfield 73, 3) := by decide +kernel
theorem d_Md_login_32 : decode b_Md_login 32 = .ok (.aload_n 0, 1) := by decide +kernel
theorem d_Md_login_33 : decode b_Md_login 33 = .ok (.dup, 1) := by decide +kernel
theorem d_Md_login_34 : decode b_Md_login 34 = .ok (.getfield 63, 3) := by decide +kernel
theorem d_Md_login_37 : decode b_Md_login 37 = .ok (.iconst 1, 1) := by decide +kernel
theorem d_Md_login_38 : decode b_Md_login 38 = .ok (.iadd, 1) := by decide +kernel
theorem d_Md_login_39 : decode b_Md_login 39 = .ok (.putfield 63, 3) := by decide +kernel
theorem d_Md_login_42 : decode b_Md_login 42 = .ok (.aload_n 0, 1) := by decide +kernel
theorem d_Md_login_43 : decode b_Md_login 43 = .ok (.iconst 0, 1) := by decide +kernel
theorem d_Md_login_44 : decode b_Md_login 44 = .ok (.invokevirtual 104, 3) := by decide +kernel
theorem d_Md_login_47 : decode b_Md_login 47 = .ok (.ireturn, 1) := by decide +kernel
theorem d_Md_state_0 : decode b_Md_state 0 = .ok (.iload_n 1, 1) := by decide +kernel
theorem d_Md_state_1 : decode b_Md_state 1 = .ok (.ifCond .lt 11, 3) := by decide +kernel
theorem d_Md_state_4 : decode b_Md_state 4 = .ok (.iload_n 1, 1) := by decide +kernel
theorem d_Md_state_5 : decode b_Md_state 5 = .ok (.aload_n 0, 1) := by decide +kernel
theorem d_Md_state_6 : decode b_Md_state 6 = .ok (.getfield 76, 3) := by decide +kernel
theorem d_Md_state_9 : decode b_Md_state 9 = .ok (.if_icmp .lt 7, 3) := by decide +kernel
theorem d_Md_state_12 : decode b_Md_state 12 = .ok (.iconst (-1), 1) := by decide +kernel
theorem d_Md_state_13 : decode b_Md_state 13 = .ok (.goto 9, 3) := by decide +kernel
theorem d_Md_state_16 : decode b_Md_state 16 = .ok (.aload_n 0, 1) := by decide +kernel
theorem d_Md_state_17 : decode b_Md_state 17 = .ok (.getfield 31, 3) := by decide +kernel
theorem d_Md_state_20 : decode b_Md_state 20 = .ok (.iload_n 1, 1) := by decide +kernel
theorem d_Md_state_21 : decode b_Md_state 21 = .ok (.iaload, 1) := by decide +kernel
theorem d_Md_state_22 : decode b_Md_state 22 = .ok (.ireturn, 1) := by decide +kernel
theorem d_Md_result_0 : decode b_Md_result 0 = .ok (.iload_n 1, 1) := by decide +kernel
theorem d_Md_result_1 : decode b_Md_result 1 = .ok (.ifCond .lt 31, 3) := by decide +kernel
theorem d_Md_result_4 : decode b_Md_result 4 = .ok (.iload_n 1, 1) := by decide +kernel
theorem d_Md_result_5 : decode b_Md_result 5 = .ok (.aload_n 0, 1) := by decide +kernel
theorem d_Md_result_6 : decode b_Md_result 6 = .ok (.getfield 76, 3) := by decide +kernel
theorem d_Md_result_9 : decode b_Md_result 9 = .ok (.if_icmp .ge 23, 3) := by decide +kernel
theorem d_Md_result_12 : decode b_Md_result 12 = .ok (.aload_n 0, 1) := by decide +kernel
theorem d_Md_result_13 : decode b_Md_result 13 = .ok (.getfield 19, 3) := by decide +kernel
theorem d_Md_result_16 : decode b_Md_result 16 = .ok (.iload_n 1, 1) := by decide +kernel
theorem d_Md_result_17 : decode b_Md_result 17 = .ok (.iaload, 1) := by decide +kernel
theorem d_Md_result_18 : decode b_Md_result 18 = .ok (.iconst 1, 1) := by decide +kernel
theorem d_Md_result_19 : decode b_Md_result 19 = .ok (.if_icmp .ne 13, 3) := by decide +kernel
theorem d_Md_result_22 : decode b_Md_result 22 = .ok (.aload_n 0, 1) := by decide +kernel
theorem d_Md_result_23 : decode b_Md_result 23 = .ok (.getfield 31, 3) := by decide +kernel
theorem d_Md_result_26 : decode b_Md_result 26 = .ok (.iload_n 1, 1) := by decide +kernel
theorem d_Md_result_27 : decode b_Md_result 27 = .ok (.iaload, 1) := by decide +kernel
theorem d_Md_result_28 : decode b_Md_result 28 = .ok (.iconst 2, 1) := by decide +kernel
theorem d_Md_result_29 : decode b_Md_result 29 = .ok (.if_icmp .eq 7, 3) := by decide +kernel
theorem d_Md_result_32 : decode b_Md_result 32 = .ok (.ldc2_w 138, 3) := by decide +kernel
theorem d_Md_result_35 : decode b_Md_result 35 = .ok (.lreturn, 1) := by decide +kernel
theorem d_Md_result_36 : decode b_Md_result 36 = .ok (.iload_n 2, 1) := by decide +kernel
theorem d_Md_result_37 : decode b_Md_result 37 = .ok (.ifCond .lt 13, 3) := by decide +kernel
theorem d_Md_result_40 : decode b_Md_result 40 = .ok (.iload_n 2, 1) := by decide +kernel
theorem d_Md_result_41 : decode b_Md_result 41 = .ok (.aload_n 0, 1) := by decide +kernel
theorem d_Md_result_42 : decode b_Md_result 42 = .ok (.getfield 25, 3) := by decide +kernel
theorem d_Md_result_45 : decode b_Md_result 45 = .ok (.iload_n 1, 1) := by decide +kernel
theorem d_Md_result_46 : decode b_Md_result 46 = .ok (.iaload, 1) := by decide +kernel
theorem d_Md_result_47 : decode b_Md_result 47 = .ok (.if_icmp .lt 9, 3) := by decide +kernel
theorem d_Md_result_50 : decode b_Md_result 50 = .ok (.ldc2_w 138, 3) := by decide +kernel
theorem d_Md_result_53 : decode b_Md_result 53 = .ok (.goto 14, 3) := by decide +kernel
theorem d_Md_result_56 : decode b_Md_result 56 = .ok (.aload_n 0, 1) := by decide +kernel
theorem d_Md_result_57 : decode b_Md_result 57 = .ok (.getfield 34, 3) := by decide +kernel
theorem d_Md_result_60 : decode b_Md_result 60 = .ok (.iload_n 1, 1) := by decide +kernel
theorem d_Md_result_61 : decode b_Md_result 61 = .ok (.iconst 3, 1) := by decide +kernel
theorem d_Md_result_62 : decode b_Md_result 62 = .ok (.imul, 1) := by decide +kernel
theorem d_Md_result_63 : decode b_Md_result 63 = .ok (.iload_n 2, 1) := by decide +kernel
theorem d_Md_result_64 : decode b_Md_result 64 = .ok (.iadd, 1) := by decide +kernel
theorem d_Md_result_65 : decode b_Md_result 65 = .ok (.iaload, 1) := by decide +kernel
theorem d_Md_result_66 : decode b_Md_result 66 = .ok (.i2l, 1) := by decide +kernel
theorem d_Md_result_67 : decode b_Md_result 67 = .ok (.lreturn, 1) := by decide +kernel
theorem d_Md_present_0 : decode b_Md_present 0 = .ok (.iload_n 1, 1) := by decide +kernel
theorem d_Md_present_1 : decode b_Md_present 1 = .ok (.ifCond .lt 9, 3) := by decide +kernel
theorem d_Md_present_4 : decode b_Md_present 4 = .ok (.iload_n 1, 1) := by decide +kernel
theorem d_Md_present_5 : decode b_Md_present 5 = .ok (.bipush 15, 2) := by decide +kernel
theorem d_Md_present_7 : decode b_Md_present 7 = .ok (.if_icmp .le 9, 3) := by decide +kernel
theorem d_Md_present_10 : decode b_Md_present 10 = .ok (.ldc2_w 138, 3) := by decide +kernel
theorem d_Md_present_13 : decode b_Md_present 13 = .ok (.goto 9, 3) := by decide +kernel
theorem d_Md_present_16 : decode b_Md_present 16 = .ok (.aload_n 0, 1) := by decide +kernel
theorem d_Md_present_17 : decode b_Md_present 17 = .ok (.iload_n 1, 1) := by decide +kernel
theorem d_Md_present_18 : decode b_Md_present 18 = .ok (.invokevirtual 125, 3) := by decide +kernel
theorem d_Md_present_21 : decode b_Md_present 21 = .ok (.i2l, 1) := by decide +kernel
theorem d_Md_present_22 : decode b_Md_present 22 = .ok (.lreturn, 1) := by decide +kernel
theorem d_Md_disk_0 : decode b_Md_disk 0 = .ok (.iload_n 1, 1) := by decide +kernel
theorem d_Md_disk_1 : decode b_Md_disk 1 = .ok (.ifCond .lt 9, 3) := by decide +kernel
theorem d_Md_disk_4 : decode b_Md_disk 4 = .ok (.iload_n 1, 1) := by decide +kernel
theorem d_Md_disk_5 : decode b_Md_disk 5 = .ok (.bipush 15, 2) := by decide +kernel
theorem d_Md_disk_7 : decode b_Md_disk 7 = .ok (.if_icmp .le 9, 3) := by decide +kernel
theorem d_Md_disk_10 : decode b_Md_disk 10 = .ok (.ldc2_w 138, 3) := by decide +kernel
theorem d_Md_disk_13 : decode b_Md_disk 13 = .ok (.goto 10, 3) := by decide +kernel
theorem d_Md_disk_16 : decode b_Md_disk 16 = .ok (.aload_n 0, 1) := by decide +kernel
theorem d_Md_disk_17 : decode b_Md_disk 17 = .ok (.getfield 7, 3) := by decide +kernel
theorem d_Md_disk_20 : decode b_Md_disk 20 = .ok (.iload_n 1, 1) := by decide +kernel
theorem d_Md_disk_21 : decode b_Md_disk 21 = .ok (.iaload, 1) := by decide +kernel
theorem d_Md_disk_22 : decode b_Md_disk 22 = .ok (.i2l, 1) := by decide +kernel
theorem d_Md_disk_23 : decode b_Md_disk 23 = .ok (.lreturn, 1) := by decide +kernel
theorem d_Md_cached_0 : decode b_Md_cached 0 = .ok (.iload_n 1, 1) := by decide +kernel
theorem d_Md_cached_1 : decode b_Md_cached 1 = .ok (.ifCond .lt 9, 3) := by decide +kernel
theorem d_Md_cached_4 : decode b_Md_cached 4 = .ok (.iload_n 1, 1) := by decide +kernel
theorem d_Md_cached_5 : decode b_Md_cached 5 = .ok (.bipush 15, 2) := by decide +kernel
theorem d_Md_cached_7 : decode b_Md_cached 7 = .ok (.if_icmp .le 8, 3) := by decide +kernel
theorem d_Md_cached_10 : decode b_Md_cached 10 = .ok (.bipush (-3), 2) := by decide +kernel
theorem d_Md_cached_12 : decode b_Md_cached 12 = .ok (.goto 8, 3) := by decide +kernel
theorem d_Md_cached_15 : decode b_Md_cached 15 = .ok (.aload_n 0, 1) := by decide +kernel
theorem d_Md_cached_16 : decode b_Md_cached 16 = .ok (.iload_n 1, 1) := by decide +kernel
theorem d_Md_cached_17 : decode b_Md_cached 17 = .ok (.invokevirtual 87, 3) := by decide +kernel
theorem d_Md_cached_20 : decode b_Md_cached 20 = .ok (.ireturn, 1) := by decide +kernel
theorem d_Md_message_0 : decode b_Md_message 0 = .ok (.iload_n 1, 1) := by decide +kernel
theorem d_Md_message_1 : decode b_Md_message 1 = .ok (.ifCond .eq 7, 3) := by decide +kernel
theorem d_Md_message_4 : decode b_Md_message 4 = .ok (.iconst 0, 1) := by decide +kernel
theorem d_Md_message_5 : decode b_Md_message 5 = .ok (.goto 4, 3) := by decide +kernel
theorem d_Md_message_8 : decode b_Md_message 8 = .ok (.iconst 1, 1) := by decide +kernel
theorem d_Md_message_9 : decode b_Md_message 9 = .ok (.istore 4, 2) := by decide +kernel
theorem d_Md_message_11 : decode b_Md_message 11 = .ok (.iload_n 2, 1) := by decide +kernel
theorem d_Md_message_12 : decode b_Md_message 12 = .ok (.ifCond .lt 14, 3) := by decide +kernel
theorem d_Md_message_15 : decode b_Md_message 15 = .ok (.iload_n 2, 1) := by decide +kernel
theorem d_Md_message_16 : decode b_Md_message 16 = .ok (.aload_n 0, 1) := by decide +kernel
theorem d_Md_message_17 : decode b_Md_message 17 = .ok (.getfield 56, 3) := by decide +kernel
theorem d_Md_message_20 : decode b_Md_message 20 = .ok (.iload 4, 2) := by decide +kernel
theorem d_Md_message_22 : decode b_Md_message 22 = .ok (.iaload, 1) := by decide +kernel
theorem d_Md_message_23 : decode b_Md_message 23 = .ok (.if_icmp .lt 5, 3) := by decide +kernel
theorem d_Md_message_26 : decode b_Md_message 26 = .ok (.iconst (-1), 1) := by decide +kernel
theorem d_Md_message_27 : decode b_Md_message 27 = .ok (.ireturn, 1) := by decide +kernel
theorem d_Md_message_28 : decode b_Md_message 28 = .ok (.iload 4, 2) := by decide +kernel
theorem d_Md_message_30 : decode b_Md_message 30 = .ok (.bipush 64, 2) := by decide +kernel
theorem d_Md_message_32 : decode b_Md_message 32 = .ok (.imul, 1) := by decide +kernel
theorem d_Md_message_33 : decode b_Md_message 33 = .ok (.iload_n 2, 1) := by decide +kernel
theorem d_Md_message_34 : decode b_Md_message 34 = .ok (.iadd, 1) := by decide +kernel
theorem d_Md_message_35 : decode b_Md_message 35 = .ok (.istore 5, 2) := by decide +kernel
theorem d_Md_message_37 : decode b_Md_message 37 = .ok (.iload_n 3, 1) := by decide +kernel
theorem d_Md_message_38 : decode b_Md_message 38 = .ok (.ifCond .ne 11, 3) := by decide +kernel
theorem d_Md_message_41 : decode b_Md_message 41 = .ok (.aload_n 0, 1) := by decide +kernel
theorem d_Md_message_42 : decode b_Md_message 42 = .ok (.getfield 37, 3) := by decide +kernel
theorem d_Md_message_45 : decode b_Md_message 45 = .ok (.iload 5, 2) := by decide +kernel
theorem d_Md_message_47 : decode b_Md_message 47 = .ok (.iaload, 1) := by decide +kernel
theorem d_Md_message_48 : decode b_Md_message 48 = .ok (.ireturn, 1) := by decide +kernel
theorem d_Md_message_49 : decode b_Md_message 49 = .ok (.iload_n 3, 1) := by decide +kernel
theorem d_Md_message_50 : decode b_Md_message 50 = .ok (.iconst 1, 1) := by decide +kernel
theorem d_Md_message_51 : decode b_Md_message 51 = .ok (.if_icmp .ne 11, 3) := by decide +kernel
theorem d_Md_message_54 : decode b_Md_message 54 = .ok (.aload_n 0, 1) := by decide +kernel
theorem d_Md_message_55 : decode b_Md_message 55 = .ok (.getfield 40, 3) := by decide +kernel
theorem d_Md_message_58 : decode b_Md_message 58 = .ok (.iload 5, 2) := by decide +kernel
theorem d_Md_message_60 : decode b_Md_message 60 = .ok (.iaload, 1) := by decide +kernel
theorem d_Md_message_61 : decode b_Md_message 61 = .ok (.ireturn, 1) := by decide +kernel
theorem d_Md_message_62 : decode b_Md_message 62 = .ok (.iload_n 3, 1) := by decide +kernel
theorem d_Md_message_63 : decode b_Md_message 63 = .ok (.iconst 2, 1) := by decide +kernel
theorem d_Md_message_64 : decode b_Md_message 64 = .ok (.if_icmp .ne 11, 3) := by decide +kernel
theorem d_Md_message_67 : decode b_Md_message 67 = .ok (.aload_n 0, 1) := by decide +kernel
theorem d_Md_message_68 : decode b_Md_message 68 = .ok (.getfield 43, 3) := by decide +kernel
theorem d_Md_message_71 : decode b_Md_message 71 = .ok (.iload 5, 2) := by decide +kernel
theorem d_Md_message_73 : decode b_Md_message 73 = .ok (.iaload, 1) := by decide +kernel
theorem d_Md_message_74 : decode b_Md_message 74 = .ok (.ireturn, 1) := by decide +kernel
theorem d_Md_message_75 : decode b_Md_message 75 = .ok (.iload_n 3, 1) := by decide +kernel
theorem d_Md_message_76 : decode b_Md_message 76 = .ok (.iconst 3, 1) := by decide +kernel
theorem d_Md_message_77 : decode b_Md_message 77 = .ok (.if_icmp .ne 11, 3) := by decide +kernel
theorem d_Md_message_80 : decode b_Md_message 80 = .ok (.aload_n 0, 1) := by decide +kernel
theorem d_Md_message_81 : decode b_Md_message 81 = .ok (.getfield 49, 3) := by decide +kernel
theorem d_Md_message_84 : decode b_Md_message 84 = .ok (.iload 5, 2) := by decide +kernel
theorem d_Md_message_86 : decode b_Md_message 86 = .ok (.iaload, 1) := by decide +kernel
theorem d_Md_message_87 : decode b_Md_message 87 = .ok (.ireturn, 1) := by decide +kernel
theorem d_Md_message_88 : decode b_Md_message 88 = .ok (.iload_n 3, 1) := by decide +kernel
theorem d_Md_message_89 : decode b_Md_message 89 = .ok (.iconst 4, 1) := by decide +kernel
theorem d_Md_message_90 : decode b_Md_message 90 = .ok (.if_icmp .ne 21, 3) := by decide +kernel
theorem d_Md_message_93 : decode b_Md_message 93 = .ok (.aload_n 0, 1) := by decide +kernel
theorem d_Md_message_94 : decode b_Md_message 94 = .ok (.getfield 52, 3) := by decide +kernel
theorem d_Md_message_97 : decode b_Md_message 97 = .ok (.iload 5, 2) := by decide +kernel
theorem d_Md_message_99 : decode b_Md_message 99 = .ok (.baload, 1) := by decide +kernel
theorem d_Md_message_100 : decode b_Md_message 100 = .ok (.ifCond .eq 7, 3) := by decide +kernel
theorem d_Md_message_103 : decode b_Md_message 103 = .ok (.iconst 1, 1) := by decide +kernel
theorem d_Md_message_104 : decode b_Md_message 104 = .ok (.goto 8, 3) := by decide +kernel
theorem d_Md_message_107 : decode b_Md_message 107 = .ok (.iconst 0, 1) := by decide +kernel
theorem d_Md_message_108 : decode b_Md_message 108 = .ok (.goto 4, 3) := by decide +kernel
theorem d_Md_message_111 : decode b_Md_message 111 = .ok (.iconst (-1), 1) := by decide +kernel
theorem d_Md_message_112 : decode b_Md_message 112 = .ok (.ireturn, 1) := by decide +kernel
theorem d_Md_waiting_0 : decode b_Md_waiting 0 = .ok (.aload_n 0, 1) := by decide +kernel
theorem d_Md_waiting_1 : decode b_Md_waiting 1 = .ok (.getfield 56, 3) := by decide +kernel
theorem d_Md_waiting_4 : decode b_Md_waiting 4 = .ok (.iload_n 1, 1) := by decide +kernel
theorem d_Md_waiting_5 : decode b_Md_waiting 5 = .ok (.ifCond .eq 7, 3) := by decide +kernel
theorem d_Md_waiting_8 : decode b_Md_waiting 8 = .ok (.iconst 0, 1) := by decide +kernel
theorem d_Md_waiting_9 : decode b_Md_waiting 9 = .ok (.goto 4, 3) := by decide +kernel
theorem d_Md_waiting_12 : decode b_Md_waiting 12 = .ok (.iconst 1, 1) := by decide +kernel
theorem d_Md_waiting_13 : decode b_Md_waiting 13 = .ok (.iaload, 1) := by decide +kernel
theorem d_Md_waiting_14 : decode b_Md_waiting 14 = .ok (.ireturn, 1) := by decide +kernel
theorem d_Md_count_0 : decode b_Md_count 0 = .ok (.iload_n 1, 1) := by decide +kernel
theorem d_Md_count_1 : decode b_Md_count 1 = .ok (.ifCond .ne 8, 3) := by decide +kernel
theorem d_Md_count_4 : decode b_Md_count 4 = .ok (.aload_n 0, 1) := by decide +kernel
theorem d_Md_count_5 : decode b_Md_count 5 = .ok (.getfield 76, 3) := by decide +kernel
theorem d_Md_count_8 : decode b_Md_count 8 = .ok (.ireturn, 1) := by decide +kernel
theorem d_Md_count_9 : decode b_Md_count 9 = .ok (.iload_n 1, 1) := by decide +kernel
theorem d_Md_count_10 : decode b_Md_count 10 = .ok (.iconst 1, 1) := by decide +kernel
theorem d_Md_count_11 : decode b_Md_count 11 = .ok (.if_icmp .lt 16, 3) := by decide +kernel
theorem d_Md_count_14 : decode b_Md_count 14 = .ok (.iload_n 1, 1) := by decide +kernel
theorem d_Md_count_15 : decode b_Md_count 15 = .ok (.iconst 3, 1) := by decide +kernel
theorem d_Md_count_16 : decode b_Md_count 16 = .ok (.if_icmp .gt 11, 3) := by decide +kernel
theorem d_Md_count_19 : decode b_Md_count 19 = .ok (.aload_n 0, 1) := by decide +kernel
theorem d_Md_count_20 : decode b_Md_count 20 = .ok (.iload_n 1, 1) := by decide +kernel
theorem d_Md_count_21 : decode b_Md_count 21 = .ok (.iconst 1, 1) := by decide +kernel
theorem d_Md_count_22 : decode b_Md_count 22 = .ok (.isub, 1) := by decide +kernel
theorem d_Md_count_23 : decode b_Md_count 23 = .ok (.invokevirtual 104, 3) := by decide +kernel
theorem d_Md_count_26 : decode b_Md_count 26 = .ok (.ireturn, 1) := by decide +kernel
theorem d_Md_count_27 : decode b_Md_count 27 = .ok (.iload_n 1, 1) := by decide +kernel
theorem d_Md_count_28 : decode b_Md_count 28 = .ok (.iconst 4, 1) := by decide +kernel
theorem d_Md_count_29 : decode b_Md_count 29 = .ok (.if_icmp .ne 8, 3) := by decide +kernel
theorem d_Md_count_32 : decode b_Md_count 32 = .ok (.aload_n 0, 1) := by decide +kernel
theorem d_Md_count_33 : decode b_Md_count 33 = .ok (.invokevirtual 94, 3) := by decide +kernel
theorem d_Md_count_36 : decode b_Md_count 36 = .ok (.ireturn, 1) := by decide +kernel
theorem d_Md_count_37 : decode b_Md_count 37 = .ok (.iload_n 1, 1) := by decide +kernel
theorem d_Md_count_38 : decode b_Md_count 38 = .ok (.bipush 8, 2) := by decide +kernel
theorem d_Md_count_40 : decode b_Md_count 40 = .ok (.if_icmp .ne 8, 3) := by decide +kernel
theorem d_Md_count_43 : decode b_Md_count 43 = .ok (.aload_n 0, 1) := by decide +kernel
theorem d_Md_count_44 : decode b_Md_count 44 = .ok (.getfield 63, 3) := by decide +kernel
theorem d_Md_count_47 : decode b_Md_count 47 = .ok (.ireturn, 1) := by decide +kernel
theorem d_Md_count_48 : decode b_Md_count 48 = .ok (.iload_n 1, 1) := by decide +kernel
theorem d_Md_count_49 : decode b_Md_count 49 = .ok (.iconst 5, 1) := by decide +kernel
theorem d_Md_count_50 : decode b_Md_count 50 = .ok (.if_icmp .lt 9, 3) := by decide +kernel
theorem d_Md_count_53 : decode b_Md_count 53 = .ok (.iload_n 1, 1) := by decide +kernel
theorem d_Md_count_54 : decode b_Md_count 54 = .ok (.bipush 7, 2) := by decide +kernel
theorem d_Md_count_56 : decode b_Md_count 56 = .ok (.if_icmp .le 5, 3) := by decide +kernel
theorem d_Md_count_59 : decode b_Md_count 59 = .ok (.iconst (-1), 1) := by decide +kernel
theorem d_Md_count_60 : decode b_Md_count 60 = .ok (.ireturn, 1) := by decide +kernel
theorem d_Md_count_61 : decode b_Md_count 61 = .ok (.aload_n 0, 1) := by decide +kernel
theorem d_Md_count_62 : decode b_Md_count 62 = .ok (.getfield 59, 3) := by decide +kernel
theorem d_Md_count_65 : decode b_Md_count 65 = .ok (.ifCond .ne 5, 3) := by decide +kernel
theorem d_Md_count_68 : decode b_Md_count 68 = .ok (.iconst 0, 1) := by decide +kernel
theorem d_Md_count_69 : decode b_Md_count 69 = .ok (.ireturn, 1) := by decide +kernel
theorem d_Md_count_70 : decode b_Md_count 70 = .ok (.iload_n 1, 1) := by decide +kernel
theorem d_Md_count_71 : decode b_Md_count 71 = .ok (.iconst 5, 1) := by decide +kernel
theorem d_Md_count_72 : decode b_Md_count 72 = .ok (.if_icmp .ne 10, 3) := by decide +kernel
theorem d_Md_count_75 : decode b_Md_count 75 = .ok (.aload_n 0, 1) := by decide +kernel
theorem d_Md_count_76 : decode b_Md_count 76 = .ok (.getfield 107, 3) := by decide +kernel
theorem d_Md_count_79 : decode b_Md_count 79 = .ok (.goto 20, 3) := by decide +kernel
theorem d_Md_count_82 : decode b_Md_count 82 = .ok (.iload_n 1, 1) := by decide +kernel
theorem d_Md_count_83 : decode b_Md_count 83 = .ok (.bipush 6, 2) := by decide +kernel
theorem d_Md_count_85 : decode b_Md_count 85 = .ok (.if_icmp .ne 10, 3) := by decide +kernel
theorem d_Md_count_88 : decode b_Md_count 88 = .ok (.aload_n 0, 1) := by decide +kernel
theorem d_Md_count_89 : decode b_Md_count 89 = .ok (.getfield 101, 3) := by decide +kernel
theorem d_Md_count_92 : decode b_Md_count 92 = .ok (.goto 7, 3) := by decide +kernel
theorem d_Md_count_95 : decode b_Md_count 95 = .ok (.aload_n 0, 1) := by decide +kernel
theorem d_Md_count_96 : decode b_Md_count 96 = .ok (.getfield 73, 3) := by decide +kernel
theorem d_Md_count_99 : decode b_Md_count 99 = .ok (.ireturn, 1) := by decide +kernel
end
section
theorem d_Lw_cell_0 : decode b_Lw_cell 0 = .ok (.iload_n 1, 1) := by decide +kernel
theorem d_Lw_cell_1 : decode b_Lw_cell 1 = .ok (.aload_n 0, 1) := by decide +kernel
theorem d_Lw_cell_2 : decode b_Lw_cell 2 = .ok (.arraylength, 1) := by decide +kernel
theorem d_Lw_cell_3 : decode b_Lw_cell 3 = .ok (.if_icmp .ge 9, 3) := by decide +kernel
theorem d_Lw_cell_6 : decode b_Lw_cell 6 = .ok (.aload_n 0, 1) := by decide +kernel
theorem d_Lw_cell_7 : decode b_Lw_cell 7 = .ok (.iload_n 1, 1) := by decide +kernel
theorem d_Lw_cell_8 : decode b_Lw_cell 8 = .ok (.iaload, 1) := by decide +kernel
theorem d_Lw_cell_9 : decode b_Lw_cell 9 = .ok (.goto 4, 3) := by decide +kernel
theorem d_Lw_cell_12 : decode b_Lw_cell 12 = .ok (.iconst 0, 1) := by decide +kernel
theorem d_Lw_cell_13 : decode b_Lw_cell 13 = .ok (.ireturn, 1) := by decide +kernel
theorem d_Lw_law_0 : decode b_Lw_law 0 = .ok (.new 7, 3) := by decide +kernel
theorem d_Lw_law_3 : decode b_Lw_law 3 = .ok (.dup, 1) := by decide +kernel
theorem d_Lw_law_4 : decode b_Lw_law 4 = .ok (.aload_n 0, 1) := by decide +kernel
theorem d_Lw_law_5 : decode b_Lw_law 5 = .ok (.iconst 0, 1) := by decide +kernel
theorem d_Lw_law_6 : decode b_Lw_law 6 = .ok (.invokestatic 9, 3) := by decide +kernel
theorem d_Lw_law_9 : decode b_Lw_law 9 = .ok (.aload_n 0, 1) := by decide +kernel
theorem d_Lw_law_10 : decode b_Lw_law 10 = .ok (.iconst 1, 1) := by decide +kernel
theorem d_Lw_law_11 : decode b_Lw_law 11 = .ok (.invokestatic 9, 3) := by decide +kernel
theorem d_Lw_law_14 : decode b_Lw_law 14 = .ok (.invokespecial 15, 3) := by decide +kernel
theorem d_Lw_law_17 : decode b_Lw_law 17 = .ok (.astore_n 1, 1) := by decide +kernel
theorem d_Lw_law_18 : decode b_Lw_law 18 = .ok (.new 18, 3) := by decide +kernel
theorem d_Lw_law_21 : decode b_Lw_law 21 = .ok (.dup, 1) := by decide +kernel
theorem d_Lw_law_22 : decode b_Lw_law 22 = .ok (.aload_n 0, 1) := by decide +kernel
theorem d_Lw_law_23 : decode b_Lw_law 23 = .ok (.iconst 0, 1) := by decide +kernel
theorem d_Lw_law_24 : decode b_Lw_law 24 = .ok (.invokestatic 9, 3) := by decide +kernel
theorem d_Lw_law_27 : decode b_Lw_law 27 = .ok (.aload_n 0, 1) := by decide +kernel
theorem d_Lw_law_28 : decode b_Lw_law 28 = .ok (.iconst 1, 1) := by decide +kernel
theorem d_Lw_law_29 : decode b_Lw_law 29 = .ok (.invokestatic 9, 3) := by decide +kernel
theorem d_Lw_law_32 : decode b_Lw_law 32 = .ok (.invokespecial 20, 3) := by decide +kernel
theorem d_Lw_law_35 : decode b_Lw_law 35 = .ok (.astore_n 2, 1) := by decide +kernel
theorem d_Lw_law_36 : decode b_Lw_law 36 = .ok (.iconst 2, 1) := by decide +kernel
theorem d_Lw_law_37 : decode b_Lw_law 37 = .ok (.istore_n 3, 1) := by decide +kernel
theorem d_Lw_law_38 : decode b_Lw_law 38 = .ok (.iload_n 3, 1) := by decide +kernel
theorem d_Lw_law_39 : decode b_Lw_law 39 = .ok (.aload_n 0, 1) := by decide +kernel
theorem d_Lw_law_40 : decode b_Lw_law 40 = .ok (.arraylength, 1) := by decide +kernel
theorem d_Lw_law_41 : decode b_Lw_law 41 = .ok (.iconst 4, 1) := by decide +kernel
theorem d_Lw_law_42 : decode b_Lw_law 42 = .ok (.isub, 1) := by decide +kernel
theorem d_Lw_law_43 : decode b_Lw_law 43 = .ok (.if_icmp .gt 594, 3) := by decide +kernel
theorem d_Lw_law_46 : decode b_Lw_law 46 = .ok (.aload_n 0, 1) := by decide +kernel
theorem d_Lw_law_47 : decode b_Lw_law 47 = .ok (.iload_n 3, 1) := by decide +kernel
theorem d_Lw_law_48 : decode b_Lw_law 48 = .ok (.iaload, 1) := by decide +kernel
theorem d_Lw_law_49 : decode b_Lw_law 49 = .ok (.bipush 31, 2) := by decide +kernel
theorem d_Lw_law_51 : decode b_Lw_law 51 = .ok (.iand, 1) := by decide +kernel
theorem d_Lw_law_52 : decode b_Lw_law 52 = .ok (.tableswitch 579 0 17 #[88, 131, 164, 177, 190, 229, 278, 291, 304, 317, 330, 353, 387, 411, 435, 458, 517, 556], 88) := by decide +kernel
theorem d_Lw_law_140 : decode b_Lw_law 140 = .ok (.aload_n 1, 1) := by decide +kernel
theorem d_Lw_law_141 : decode b_Lw_law 141 = .ok (.aload_n 0, 1) := by decide +kernel
theorem d_Lw_law_142 : decode b_Lw_law 142 = .ok (.iload_n 3, 1) := by decide +kernel
theorem d_Lw_law_143 : decode b_Lw_law 143 = .ok (.iconst 1, 1) := by decide +kernel
theorem d_Lw_law_144 : decode b_Lw_law 144 = .ok (.iadd, 1) := by decide +kernel
theorem d_Lw_law_145 : decode b_Lw_law 145 = .ok (.iaload, 1) := by decide +kernel
theorem d_Lw_law_146 : decode b_Lw_law 146 = .ok (.aload_n 0, 1) := by decide +kernel
theorem d_Lw_law_147 : decode b_Lw_law 147 = .ok (.iload_n 3, 1) := by decide +kernel
theorem d_Lw_law_148 : decode b_Lw_law 148 = .ok (.iconst 2, 1) := by decide +kernel
theorem d_Lw_law_149 : decode b_Lw_law 149 = .ok (.iadd, 1) := by decide +kernel
theorem d_Lw_law_150 : decode b_Lw_law 150 = .ok (.iaload, 1) := by decide +kernel
theorem d_Lw_law_151 : decode b_Lw_law 151 = .ok (.aload_n 0, 1) := by decide +kernel
theorem d_Lw_law_152 : decode b_Lw_law 152 = .ok (.iload_n 3, 1) := by decide +kernel
theorem d_Lw_law_153 : decode b_Lw_law 153 = .ok (.iconst 3, 1) := by decide +kernel
theorem d_Lw_law_154 : decode b_Lw_law 154 = .ok (.iadd, 1) := by decide +kernel
theorem d_Lw_law_155 : decode b_Lw_law 155 = .ok (.iaload, 1) := by decide +kernel
theorem d_Lw_law_156 : decode b_Lw_law 156 = .ok (.invokevirtual 21, 3) := by decide +kernel
theorem d_Lw_law_159 : decode b_Lw_law 159 = .ok (.aload_n 2, 1) := by decide +kernel
theorem d_Lw_law_160 : decode b_Lw_law 160 = .ok (.aload_n 0, 1) := by decide +kernel
theorem d_Lw_law_161 : decode b_Lw_law 161 = .ok (.iload_n 3, 1) := by decide +kernel
theorem d_Lw_law_162 : decode b_Lw_law 162 = .ok (.iconst 1, 1) := by decide +kernel
theorem d_Lw_law_163 : decode b_Lw_law 163 = .ok (.iadd, 1) := by decide +kernel
theorem d_Lw_law_164 : decode b_Lw_law 164 = .ok (.iaload, 1) := by decide +kernel
theorem d_Lw_law_165 : decode b_Lw_law 165 = .ok (.aload_n 0, 1) := by decide +kernel
theorem d_Lw_law_166 : decode b_Lw_law 166 = .ok (.iload_n 3, 1) := by decide +kernel
theorem d_Lw_law_167 : decode b_Lw_law 167 = .ok (.iconst 2, 1) := by decide +kernel
theorem d_Lw_law_168 : decode b_Lw_law 168 = .ok (.iadd, 1) := by decide +kernel
theorem d_Lw_law_169 : decode b_Lw_law 169 = .ok (.iaload, 1) := by decide +kernel
theorem d_Lw_law_170 : decode b_Lw_law 170 = .ok (.aload_n 0, 1) := by decide +kernel
theorem d_Lw_law_171 : decode b_Lw_law 171 = .ok (.iload_n 3, 1) := by decide +kernel
theorem d_Lw_law_172 : decode b_Lw_law 172 = .ok (.iconst 3, 1) := by decide +kernel
theorem d_Lw_law_173 : decode b_Lw_law 173 = .ok (.iadd, 1) := by decide +kernel
theorem d_Lw_law_174 : decode b_Lw_law 174 = .ok (.iaload, 1) := by decide +kernel
theorem d_Lw_law_175 : decode b_Lw_law 175 = .ok (.invokevirtual 25, 3) := by decide +kernel
theorem d_Lw_law_178 : decode b_Lw_law 178 = .ok (.if_icmp .eq 453, 3) := by decide +kernel
theorem d_Lw_law_181 : decode b_Lw_law 181 = .ok (.iconst 0, 1) := by decide +kernel
theorem d_Lw_law_182 : decode b_Lw_law 182 = .ok (.ireturn, 1) := by decide +kernel
theorem d_Lw_law_183 : decode b_Lw_law 183 = .ok (.aload_n 1, 1) := by decide +kernel
theorem d_Lw_law_184 : decode b_Lw_law 184 = .ok (.aload_n 0, 1) := by decide +kernel
theorem d_Lw_law_185 : decode b_Lw_law 185 = .ok (.iload_n 3, 1) := by decide +kernel
theorem d_Lw_law_186 : decode b_Lw_law 186 = .ok (.iconst 1, 1) := by decide +kernel
theorem d_Lw_law_187 : decode b_Lw_law 187 = .ok (.iadd, 1) := by decide +kernel
theorem d_Lw_law_188 : decode b_Lw_law 188 = .ok (.iaload, 1) := by decide +kernel
theorem d_Lw_law_189 : decode b_Lw_law 189 = .ok (.aload_n 0, 1) := by decide +kernel
theorem d_Lw_law_190 : decode b_Lw_law 190 = .ok (.iload_n 3, 1) := by decide +kernel
theorem d_Lw_law_191 : decode b_Lw_law 191 = .ok (.iconst 2, 1) := by decide +kernel
theorem d_Lw_law_192 : decode b_Lw_law 192 = .ok (.iadd, 1) := by decide +kernel
theorem d_Lw_law_193 : decode b_Lw_law 193 = .ok (.iaload, 1) := by decide +kernel
theorem d_Lw_law_194 : decode b_Lw_law 194 = .ok (.invokevirtual 26, 3) := by decide +kernel
theorem d_Lw_law_197 : decode b_Lw_law 197 = .ok (.aload_n 2, 1) := by decide +kernel
theorem d_Lw_law_198 : decode b_Lw_law 198 = .ok (.aload_n 0, 1) := by decide +kernel
theorem d_Lw_law_199 : decode b_Lw_law 199 = .ok (.iload_n 3, 1) := by decide +kernel
theorem d_Lw_law_200 : decode b_Lw_law 200 = .ok (.iconst 1, 1) := by decide +kernel
theorem d_Lw_law_201 : decode b_Lw_law 201 = .ok (.iadd, 1) := by decide +kernel
theorem d_Lw_law_202 : decode b_Lw_law 202 = .ok (.iaload, 1) := by decide +kernel
theorem d_Lw_law_203 : decode b_Lw_law 203 = .ok (.aload_n 0, 1) := by decide +kernel
theorem d_Lw_law_204 : decode b_Lw_law 204 = .ok (.iload_n 3, 1) := by decide +kernel
theorem d_Lw_law_205 : decode b_Lw_law 205 = .ok (.iconst 2, 1) := by decide +kernel
theorem d_Lw_law_206 : decode b_Lw_law 206 = .ok (.iadd, 1) := by decide +kernel
theorem d_Lw_law_207 : decode b_Lw_law 207 = .ok (.iaload, 1) := by decide +kernel
theorem d_Lw_law_208 : decode b_Lw_law 208 = .ok (.invokevirtual 30, 3) := by decide +kernel
theorem d_Lw_law_211 : decode b_Lw_law 211 = .ok (.if_icmp .eq 420, 3) := by decide +kernel
theorem d_Lw_law_214 : decode b_Lw_law 214 = .ok (.iconst 0, 1) := by decide +kernel
theorem d_Lw_law_215 : decode b_Lw_law 215 = .ok (.ireturn, 1) := by decide +kernel
theorem d_Lw_law_216 : decode b_Lw_law 216 = .ok (.aload_n 1, 1) := by decide +kernel
theorem d_Lw_law_217 : decode b_Lw_law 217 = .ok (.invokevirtual 31, 3) := by decide +kernel
theorem d_Lw_law_220 : decode b_Lw_law 220 = .ok (.aload_n 2, 1) := by decide +kernel
theorem d_Lw_law_221 : decode b_Lw_law 221 = .ok (.invokevirtual 35, 3) := by decide +kernel
theorem d_Lw_law_224 : decode b_Lw_law 224 = .ok (.if_icmp .eq 407, 3) := by decide +kernel
theorem d_Lw_law_227 : decode b_Lw_law 227 = .ok (.iconst 0, 1) := by decide +kernel
theorem d_Lw_law_228 : decode b_Lw_law 228 = .ok (.ireturn, 1) := by decide +kernel
theorem d_Lw_law_229 : decode b_Lw_law 229 = .ok (.aload_n 1, 1) := by decide +kernel
theorem d_Lw_law_230 : decode b_Lw_law 230 = .ok (.invokevirtual 36, 3) := by decide +kernel
theorem d_Lw_law_233 : decode b_Lw_law 233 = .ok (.aload_n 2, 1) := by decide +kernel
theorem d_Lw_law_234 : decode b_Lw_law 234 = .ok (.invokevirtual 39, 3) := by decide +kernel
theorem d_Lw_law_237 : decode b_Lw_law 237 = .ok (.if_icmp .eq 394, 3) := by decide +kernel
theorem d_Lw_law_240 : decode b_Lw_law 240 = .ok (.iconst 0, 1) := by decide +kernel
theorem d_Lw_law_241 : decode b_Lw_law 241 = .ok (.ireturn, 1) := by decide +kernel
theorem d_Lw_law_242 : decode b_Lw_law 242 = .ok (.aload_n 1, 1) := by decide +kernel
theorem d_Lw_law_243 : decode b_Lw_law 243 = .ok (.aload_n 0, 1) := by decide +kernel
theorem d_Lw_law_244 : decode b_Lw_law 244 = .ok (.iload_n 3, 1) := by decide +kernel
theorem d_Lw_law_245 : decode b_Lw_law 245 = .ok (.iconst 1, 1) := by decide +kernel
theorem d_Lw_law_246 : decode b_Lw_law 246 = .ok (.iadd, 1) := by decide +kernel
theorem d_Lw_law_247 : decode b_Lw_law 247 = .ok (.iaload, 1) := by decide +kernel
theorem d_Lw_law_248 : decode b_Lw_law 248 = .ok (.ifCond .eq 7, 3) := by decide +kernel
theorem d_Lw_law_251 : decode b_Lw_law 251 = .ok (.iconst 1, 1) := by decide +kernel
theorem d_Lw_law_252 : decode b_Lw_law 252 = .ok (.goto 4, 3) := by decide +kernel
theorem d_Lw_law_255 : decode b_Lw_law 255 = .ok (.iconst 0, 1) := by decide +kernel
theorem d_Lw_law_256 : decode b_Lw_law 256 = .ok (.invokevirtual 40, 3) := by decide +kernel
theorem d_Lw_law_259 : decode b_Lw_law 259 = .ok (.aload_n 2, 1) := by decide +kernel
theorem d_Lw_law_260 : decode b_Lw_law 260 = .ok (.aload_n 0, 1) := by decide +kernel
theorem d_Lw_law_261 : decode b_Lw_law 261 = .ok (.iload_n 3, 1) := by decide +kernel
theorem d_Lw_law_262 : decode b_Lw_law 262 = .ok (.iconst 1, 1) := by decide +kernel
theorem d_Lw_law_263 : decode b_Lw_law 263 = .ok (.iadd, 1) := by decide +kernel
theorem d_Lw_law_264 : decode b_Lw_law 264 = .ok (.iaload, 1) := by decide +kernel
theorem d_Lw_law_265 : decode b_Lw_law 265 = .ok (.ifCond .eq 7, 3) := by decide +kernel
theorem d_Lw_law_268 : decode b_Lw_law 268 = .ok (.iconst 1, 1) := by decide +kernel
theorem d_Lw_law_269 : decode b_Lw_law 269 = .ok (.goto 4, 3) := by decide +kernel
theorem d_Lw_law_272 : decode b_Lw_law 272 = .ok (.iconst 0, 1) := by decide +kernel
theorem d_Lw_law_273 : decode b_Lw_law 273 = .ok (.invokevirtual 44, 3) := by decide +kernel
theorem d_Lw_law_276 : decode b_Lw_law 276 = .ok (.if_icmp .eq 355, 3) := by decide +kernel
theorem d_Lw_law_279 : decode b_Lw_law 279 = .ok (.iconst 0, 1) := by decide +kernel
theorem d_Lw_law_280 : decode b_Lw_law 280 = .ok (.ireturn, 1) := by decide +kernel
theorem d_Lw_law_281 : decode b_Lw_law 281 = .ok (.aload_n 1, 1) := by decide +kernel
theorem d_Lw_law_282 : decode b_Lw_law 282 = .ok (.aload_n 0, 1) := by decide +kernel
theorem d_Lw_law_283 : decode b_Lw_law 283 = .ok (.iload_n 3, 1) := by decide +kernel
theorem d_Lw_law_284 : decode b_Lw_law 284 = .ok (.iconst 1, 1) := by decide +kernel
theorem d_Lw_law_285 : decode b_Lw_law 285 = .ok (.iadd, 1) := by decide +kernel
theorem d_Lw_law_286 : decode b_Lw_law 286 = .ok (.iaload, 1) := by decide +kernel
theorem d_Lw_law_287 : decode b_Lw_law 287 = .ok (.ifCond .eq 7, 3) := by decide +kernel
theorem d_Lw_law_290 : decode b_Lw_law 290 = .ok (.iconst 1, 1) := by decide +kernel
theorem d_Lw_law_291 : decode b_Lw_law 291 = .ok (.goto 4, 3) := by decide +kernel
theorem d_Lw_law_294 : decode b_Lw_law 294 = .ok (.iconst 0, 1) := by decide +kernel
theorem d_Lw_law_295 : decode b_Lw_law 295 = .ok (.aload_n 0, 1) := by decide +kernel
theorem d_Lw_law_296 : decode b_Lw_law 296 = .ok (.iload_n 3, 1) := by decide +kernel
theorem d_Lw_law_297 : decode b_Lw_law 297 = .ok (.iconst 2, 1) := by decide +kernel
theorem d_Lw_law_298 : decode b_Lw_law 298 = .ok (.iadd, 1) := by decide +kernel
theorem d_Lw_law_299 : decode b_Lw_law 299 = .ok (.iaload, 1) := by decide +kernel
theorem d_Lw_law_300 : decode b_Lw_law 300 = .ok (.invokevirtual 45, 3) := by decide +kernel
theorem d_Lw_law_303 : decode b_Lw_law 303 = .ok (.aload_n 2, 1) := by decide +kernel
theorem d_Lw_law_304 : decode b_Lw_law 304 = .ok (.aload_n 0, 1) := by decide +kernel
theorem d_Lw_law_305 : decode b_Lw_law 305 = .ok (.iload_n 3, 1) := by decide +kernel
theorem d_Lw_law_306 : decode b_Lw_law 306 = .ok (.iconst 1, 1) := by decide +kernel
theorem d_Lw_law_307 : decode b_Lw_law 307 = .ok (.iadd, 1) := by decide +kernel
theorem d_Lw_law_308 : decode b_Lw_law 308 = .ok (.iaload, 1) := by decide +kernel
theorem d_Lw_law_309 : decode b_Lw_law 309 = .ok (.ifCond .eq 7, 3) := by decide +kernel
theorem d_Lw_law_312 : decode b_Lw_law 312 = .ok (.iconst 1, 1) := by decide +kernel
theorem d_Lw_law_313 : decode b_Lw_law 313 = .ok (.goto 4, 3) := by decide +kernel
theorem d_Lw_law_316 : decode b_Lw_law 316 = .ok (.iconst 0, 1) := by decide +kernel
theorem d_Lw_law_317 : decode b_Lw_law 317 = .ok (.aload_n 0, 1) := by decide +kernel
theorem d_Lw_law_318 : decode b_Lw_law 318 = .ok (.iload_n 3, 1) := by decide +kernel
theorem d_Lw_law_319 : decode b_Lw_law 319 = .ok (.iconst 2, 1) := by decide +kernel
theorem d_Lw_law_320 : decode b_Lw_law 320 = .ok (.iadd, 1) := by decide +kernel
theorem d_Lw_law_321 : decode b_Lw_law 321 = .ok (.iaload, 1) := by decide +kernel
theorem d_Lw_law_322 : decode b_Lw_law 322 = .ok (.invokevirtual 49, 3) := by decide +kernel
theorem d_Lw_law_325 : decode b_Lw_law 325 = .ok (.if_icmp .eq 306, 3) := by decide +kernel
theorem d_Lw_law_328 : decode b_Lw_law 328 = .ok (.iconst 0, 1) := by decide +kernel
theorem d_Lw_law_329 : decode b_Lw_law 329 = .ok (.ireturn, 1) := by decide +kernel
theorem d_Lw_law_330 : decode b_Lw_law 330 = .ok (.aload_n 1, 1) := by decide +kernel
theorem d_Lw_law_331 : decode b_Lw_law 331 = .ok (.invokevirtual 50, 3) := by decide +kernel
theorem d_Lw_law_334 : decode b_Lw_law 334 = .ok (.aload_n 2, 1) := by decide +kernel
theorem d_Lw_law_335 : decode b_Lw_law 335 = .ok (.invokevirtual 53, 3) := by decide +kernel
theorem d_Lw_law_338 : decode b_Lw_law 338 = .ok (.if_icmp .eq 293, 3) := by decide +kernel
theorem d_Lw_law_341 : decode b_Lw_law 341 = .ok (.iconst 0, 1) := by decide +kernel
theorem d_Lw_law_342 : decode b_Lw_law 342 = .ok (.ireturn, 1) := by decide +kernel
theorem d_Lw_law_343 : decode b_Lw_law 343 = .ok (.aload_n 1, 1) := by decide +kernel
theorem d_Lw_law_344 : decode b_Lw_law 344 = .ok (.invokevirtual 54, 3) := by decide +kernel
theorem d_Lw_law_347 : decode b_Lw_law 347 = .ok (.aload_n 2, 1) := by decide +kernel
theorem d_Lw_law_348 : decode b_Lw_law 348 = .ok (.invokevirtual 57, 3) := by decide +kernel
theorem d_Lw_law_351 : decode b_Lw_law 351 = .ok (.if_icmp .eq 280, 3) := by decide +kernel
theorem d_Lw_law_354 : decode b_Lw_law 354 = .ok (.iconst 0, 1) := by decide +kernel
theorem d_Lw_law_355 : decode b_Lw_law 355 = .ok (.ireturn, 1) := by decide +kernel
theorem d_Lw_law_356 : decode b_Lw_law 356 = .ok (.aload_n 1, 1) := by decide +kernel
theorem d_Lw_law_357 : decode b_Lw_law 357 = .ok (.invokevirtual 58, 3) := by decide +kernel
theorem d_Lw_law_360 : decode b_Lw_law 360 = .ok (.aload_n 2, 1) := by decide +kernel
theorem d_Lw_law_361 : decode b_Lw_law 361 = .ok (.invokevirtual 61, 3) := by decide +kernel
end
section
theorem d_Lw_law_364 : decode b_Lw_law 364 = .ok (.if_icmp .eq 267, 3) := by decide +kernel
theorem d_Lw_law_367 : decode b_Lw_law 367 = .ok (.iconst 0, 1) := by decide +kernel
theorem d_Lw_law_368 : decode b_Lw_law 368 = .ok (.ireturn, 1) := by decide +kernel
theorem d_Lw_law_369 : decode b_Lw_law 369 = .ok (.aload_n 1, 1) := by decide +kernel
theorem d_Lw_law_370 : decode b_Lw_law 370 = .ok (.invokevirtual 62, 3) := by decide +kernel
theorem d_Lw_law_373 : decode b_Lw_law 373 = .ok (.aload_n 2, 1) := by decide +kernel
theorem d_Lw_law_374 : decode b_Lw_law 374 = .ok (.invokevirtual 65, 3) := by decide +kernel
theorem d_Lw_law_377 : decode b_Lw_law 377 = .ok (.if_icmp .eq 254, 3) := by decide +kernel
theorem d_Lw_law_380 : decode b_Lw_law 380 = .ok (.iconst 0, 1) := by decide +kernel
theorem d_Lw_law_381 : decode b_Lw_law 381 = .ok (.ireturn, 1) := by decide +kernel
theorem d_Lw_law_382 : decode b_Lw_law 382 = .ok (.aload_n 1, 1) := by decide +kernel
theorem d_Lw_law_383 : decode b_Lw_law 383 = .ok (.aload_n 0, 1) := by decide +kernel
theorem d_Lw_law_384 : decode b_Lw_law 384 = .ok (.iload_n 3, 1) := by decide +kernel
theorem d_Lw_law_385 : decode b_Lw_law 385 = .ok (.iconst 1, 1) := by decide +kernel
theorem d_Lw_law_386 : decode b_Lw_law 386 = .ok (.iadd, 1) := by decide +kernel
theorem d_Lw_law_387 : decode b_Lw_law 387 = .ok (.iaload, 1) := by decide +kernel
theorem d_Lw_law_388 : decode b_Lw_law 388 = .ok (.invokevirtual 66, 3) := by decide +kernel
theorem d_Lw_law_391 : decode b_Lw_law 391 = .ok (.aload_n 2, 1) := by decide +kernel
theorem d_Lw_law_392 : decode b_Lw_law 392 = .ok (.aload_n 0, 1) := by decide +kernel
theorem d_Lw_law_393 : decode b_Lw_law 393 = .ok (.iload_n 3, 1) := by decide +kernel
theorem d_Lw_law_394 : decode b_Lw_law 394 = .ok (.iconst 1, 1) := by decide +kernel
theorem d_Lw_law_395 : decode b_Lw_law 395 = .ok (.iadd, 1) := by decide +kernel
theorem d_Lw_law_396 : decode b_Lw_law 396 = .ok (.iaload, 1) := by decide +kernel
theorem d_Lw_law_397 : decode b_Lw_law 397 = .ok (.invokevirtual 70, 3) := by decide +kernel
theorem d_Lw_law_400 : decode b_Lw_law 400 = .ok (.if_icmp .eq 231, 3) := by decide +kernel
theorem d_Lw_law_403 : decode b_Lw_law 403 = .ok (.iconst 0, 1) := by decide +kernel
theorem d_Lw_law_404 : decode b_Lw_law 404 = .ok (.ireturn, 1) := by decide +kernel
theorem d_Lw_law_405 : decode b_Lw_law 405 = .ok (.aload_n 1, 1) := by decide +kernel
theorem d_Lw_law_406 : decode b_Lw_law 406 = .ok (.aload_n 0, 1) := by decide +kernel
theorem d_Lw_law_407 : decode b_Lw_law 407 = .ok (.iload_n 3, 1) := by decide +kernel
theorem d_Lw_law_408 : decode b_Lw_law 408 = .ok (.iconst 1, 1) := by decide +kernel
theorem d_Lw_law_409 : decode b_Lw_law 409 = .ok (.iadd, 1) := by decide +kernel
theorem d_Lw_law_410 : decode b_Lw_law 410 = .ok (.iaload, 1) := by decide +kernel
theorem d_Lw_law_411 : decode b_Lw_law 411 = .ok (.aload_n 0, 1) := by decide +kernel
theorem d_Lw_law_412 : decode b_Lw_law 412 = .ok (.iload_n 3, 1) := by decide +kernel
theorem d_Lw_law_413 : decode b_Lw_law 413 = .ok (.iconst 2, 1) := by decide +kernel
theorem d_Lw_law_414 : decode b_Lw_law 414 = .ok (.iadd, 1) := by decide +kernel
theorem d_Lw_law_415 : decode b_Lw_law 415 = .ok (.iaload, 1) := by decide +kernel
theorem d_Lw_law_416 : decode b_Lw_law 416 = .ok (.invokevirtual 71, 3) := by decide +kernel
theorem d_Lw_law_419 : decode b_Lw_law 419 = .ok (.aload_n 2, 1) := by decide +kernel
theorem d_Lw_law_420 : decode b_Lw_law 420 = .ok (.aload_n 0, 1) := by decide +kernel
theorem d_Lw_law_421 : decode b_Lw_law 421 = .ok (.iload_n 3, 1) := by decide +kernel
theorem d_Lw_law_422 : decode b_Lw_law 422 = .ok (.iconst 1, 1) := by decide +kernel
theorem d_Lw_law_423 : decode b_Lw_law 423 = .ok (.iadd, 1) := by decide +kernel
theorem d_Lw_law_424 : decode b_Lw_law 424 = .ok (.iaload, 1) := by decide +kernel
theorem d_Lw_law_425 : decode b_Lw_law 425 = .ok (.aload_n 0, 1) := by decide +kernel
theorem d_Lw_law_426 : decode b_Lw_law 426 = .ok (.iload_n 3, 1) := by decide +kernel
theorem d_Lw_law_427 : decode b_Lw_law 427 = .ok (.iconst 2, 1) := by decide +kernel
theorem d_Lw_law_428 : decode b_Lw_law 428 = .ok (.iadd, 1) := by decide +kernel
theorem d_Lw_law_429 : decode b_Lw_law 429 = .ok (.iaload, 1) := by decide +kernel
theorem d_Lw_law_430 : decode b_Lw_law 430 = .ok (.invokevirtual 75, 3) := by decide +kernel
theorem d_Lw_law_433 : decode b_Lw_law 433 = .ok (.lcmp, 1) := by decide +kernel
theorem d_Lw_law_434 : decode b_Lw_law 434 = .ok (.ifCond .eq 197, 3) := by decide +kernel
theorem d_Lw_law_437 : decode b_Lw_law 437 = .ok (.iconst 0, 1) := by decide +kernel
theorem d_Lw_law_438 : decode b_Lw_law 438 = .ok (.ireturn, 1) := by decide +kernel
theorem d_Lw_law_439 : decode b_Lw_law 439 = .ok (.aload_n 1, 1) := by decide +kernel
theorem d_Lw_law_440 : decode b_Lw_law 440 = .ok (.aload_n 0, 1) := by decide +kernel
theorem d_Lw_law_441 : decode b_Lw_law 441 = .ok (.iload_n 3, 1) := by decide +kernel
theorem d_Lw_law_442 : decode b_Lw_law 442 = .ok (.iconst 1, 1) := by decide +kernel
theorem d_Lw_law_443 : decode b_Lw_law 443 = .ok (.iadd, 1) := by decide +kernel
theorem d_Lw_law_444 : decode b_Lw_law 444 = .ok (.iaload, 1) := by decide +kernel
theorem d_Lw_law_445 : decode b_Lw_law 445 = .ok (.invokevirtual 76, 3) := by decide +kernel
theorem d_Lw_law_448 : decode b_Lw_law 448 = .ok (.aload_n 2, 1) := by decide +kernel
theorem d_Lw_law_449 : decode b_Lw_law 449 = .ok (.aload_n 0, 1) := by decide +kernel
theorem d_Lw_law_450 : decode b_Lw_law 450 = .ok (.iload_n 3, 1) := by decide +kernel
theorem d_Lw_law_451 : decode b_Lw_law 451 = .ok (.iconst 1, 1) := by decide +kernel
theorem d_Lw_law_452 : decode b_Lw_law 452 = .ok (.iadd, 1) := by decide +kernel
theorem d_Lw_law_453 : decode b_Lw_law 453 = .ok (.iaload, 1) := by decide +kernel
theorem d_Lw_law_454 : decode b_Lw_law 454 = .ok (.invokevirtual 80, 3) := by decide +kernel
theorem d_Lw_law_457 : decode b_Lw_law 457 = .ok (.lcmp, 1) := by decide +kernel
theorem d_Lw_law_458 : decode b_Lw_law 458 = .ok (.ifCond .eq 173, 3) := by decide +kernel
theorem d_Lw_law_461 : decode b_Lw_law 461 = .ok (.iconst 0, 1) := by decide +kernel
theorem d_Lw_law_462 : decode b_Lw_law 462 = .ok (.ireturn, 1) := by decide +kernel
theorem d_Lw_law_463 : decode b_Lw_law 463 = .ok (.aload_n 1, 1) := by decide +kernel
theorem d_Lw_law_464 : decode b_Lw_law 464 = .ok (.aload_n 0, 1) := by decide +kernel
theorem d_Lw_law_465 : decode b_Lw_law 465 = .ok (.iload_n 3, 1) := by decide +kernel
theorem d_Lw_law_466 : decode b_Lw_law 466 = .ok (.iconst 1, 1) := by decide +kernel
theorem d_Lw_law_467 : decode b_Lw_law 467 = .ok (.iadd, 1) := by decide +kernel
theorem d_Lw_law_468 : decode b_Lw_law 468 = .ok (.iaload, 1) := by decide +kernel
theorem d_Lw_law_469 : decode b_Lw_law 469 = .ok (.invokevirtual 81, 3) := by decide +kernel
theorem d_Lw_law_472 : decode b_Lw_law 472 = .ok (.aload_n 2, 1) := by decide +kernel
theorem d_Lw_law_473 : decode b_Lw_law 473 = .ok (.aload_n 0, 1) := by decide +kernel
theorem d_Lw_law_474 : decode b_Lw_law 474 = .ok (.iload_n 3, 1) := by decide +kernel
theorem d_Lw_law_475 : decode b_Lw_law 475 = .ok (.iconst 1, 1) := by decide +kernel
theorem d_Lw_law_476 : decode b_Lw_law 476 = .ok (.iadd, 1) := by decide +kernel
theorem d_Lw_law_477 : decode b_Lw_law 477 = .ok (.iaload, 1) := by decide +kernel
theorem d_Lw_law_478 : decode b_Lw_law 478 = .ok (.invokevirtual 84, 3) := by decide +kernel
theorem d_Lw_law_481 : decode b_Lw_law 481 = .ok (.lcmp, 1) := by decide +kernel
theorem d_Lw_law_482 : decode b_Lw_law 482 = .ok (.ifCond .eq 149, 3) := by decide +kernel
theorem d_Lw_law_485 : decode b_Lw_law 485 = .ok (.iconst 0, 1) := by decide +kernel
theorem d_Lw_law_486 : decode b_Lw_law 486 = .ok (.ireturn, 1) := by decide +kernel
theorem d_Lw_law_487 : decode b_Lw_law 487 = .ok (.aload_n 1, 1) := by decide +kernel
theorem d_Lw_law_488 : decode b_Lw_law 488 = .ok (.aload_n 0, 1) := by decide +kernel
theorem d_Lw_law_489 : decode b_Lw_law 489 = .ok (.iload_n 3, 1) := by decide +kernel
theorem d_Lw_law_490 : decode b_Lw_law 490 = .ok (.iconst 1, 1) := by decide +kernel
theorem d_Lw_law_491 : decode b_Lw_law 491 = .ok (.iadd, 1) := by decide +kernel
theorem d_Lw_law_492 : decode b_Lw_law 492 = .ok (.iaload, 1) := by decide +kernel
theorem d_Lw_law_493 : decode b_Lw_law 493 = .ok (.invokevirtual 85, 3) := by decide +kernel
theorem d_Lw_law_496 : decode b_Lw_law 496 = .ok (.aload_n 2, 1) := by decide +kernel
theorem d_Lw_law_497 : decode b_Lw_law 497 = .ok (.aload_n 0, 1) := by decide +kernel
theorem d_Lw_law_498 : decode b_Lw_law 498 = .ok (.iload_n 3, 1) := by decide +kernel
theorem d_Lw_law_499 : decode b_Lw_law 499 = .ok (.iconst 1, 1) := by decide +kernel
theorem d_Lw_law_500 : decode b_Lw_law 500 = .ok (.iadd, 1) := by decide +kernel
theorem d_Lw_law_501 : decode b_Lw_law 501 = .ok (.iaload, 1) := by decide +kernel
theorem d_Lw_law_502 : decode b_Lw_law 502 = .ok (.invokevirtual 88, 3) := by decide +kernel
theorem d_Lw_law_505 : decode b_Lw_law 505 = .ok (.if_icmp .eq 126, 3) := by decide +kernel
theorem d_Lw_law_508 : decode b_Lw_law 508 = .ok (.iconst 0, 1) := by decide +kernel
theorem d_Lw_law_509 : decode b_Lw_law 509 = .ok (.ireturn, 1) := by decide +kernel
theorem d_Lw_law_510 : decode b_Lw_law 510 = .ok (.aload_n 1, 1) := by decide +kernel
theorem d_Lw_law_511 : decode b_Lw_law 511 = .ok (.aload_n 0, 1) := by decide +kernel
theorem d_Lw_law_512 : decode b_Lw_law 512 = .ok (.iload_n 3, 1) := by decide +kernel
theorem d_Lw_law_513 : decode b_Lw_law 513 = .ok (.iconst 1, 1) := by decide +kernel
theorem d_Lw_law_514 : decode b_Lw_law 514 = .ok (.iadd, 1) := by decide +kernel
theorem d_Lw_law_515 : decode b_Lw_law 515 = .ok (.iaload, 1) := by decide +kernel
theorem d_Lw_law_516 : decode b_Lw_law 516 = .ok (.ifCond .eq 7, 3) := by decide +kernel
theorem d_Lw_law_519 : decode b_Lw_law 519 = .ok (.iconst 1, 1) := by decide +kernel
theorem d_Lw_law_520 : decode b_Lw_law 520 = .ok (.goto 4, 3) := by decide +kernel
theorem d_Lw_law_523 : decode b_Lw_law 523 = .ok (.iconst 0, 1) := by decide +kernel
theorem d_Lw_law_524 : decode b_Lw_law 524 = .ok (.aload_n 0, 1) := by decide +kernel
theorem d_Lw_law_525 : decode b_Lw_law 525 = .ok (.iload_n 3, 1) := by decide +kernel
theorem d_Lw_law_526 : decode b_Lw_law 526 = .ok (.iconst 2, 1) := by decide +kernel
theorem d_Lw_law_527 : decode b_Lw_law 527 = .ok (.iadd, 1) := by decide +kernel
theorem d_Lw_law_528 : decode b_Lw_law 528 = .ok (.iaload, 1) := by decide +kernel
theorem d_Lw_law_529 : decode b_Lw_law 529 = .ok (.aload_n 0, 1) := by decide +kernel
theorem d_Lw_law_530 : decode b_Lw_law 530 = .ok (.iload_n 3, 1) := by decide +kernel
theorem d_Lw_law_531 : decode b_Lw_law 531 = .ok (.iconst 3, 1) := by decide +kernel
theorem d_Lw_law_532 : decode b_Lw_law 532 = .ok (.iadd, 1) := by decide +kernel
theorem d_Lw_law_533 : decode b_Lw_law 533 = .ok (.iaload, 1) := by decide +kernel
theorem d_Lw_law_534 : decode b_Lw_law 534 = .ok (.invokevirtual 89, 3) := by decide +kernel
theorem d_Lw_law_537 : decode b_Lw_law 537 = .ok (.aload_n 2, 1) := by decide +kernel
theorem d_Lw_law_538 : decode b_Lw_law 538 = .ok (.aload_n 0, 1) := by decide +kernel
theorem d_Lw_law_539 : decode b_Lw_law 539 = .ok (.iload_n 3, 1) := by decide +kernel
theorem d_Lw_law_540 : decode b_Lw_law 540 = .ok (.iconst 1, 1) := by decide +kernel
theorem d_Lw_law_541 : decode b_Lw_law 541 = .ok (.iadd, 1) := by decide +kernel
theorem d_Lw_law_542 : decode b_Lw_law 542 = .ok (.iaload, 1) := by decide +kernel
theorem d_Lw_law_543 : decode b_Lw_law 543 = .ok (.ifCond .eq 7, 3) := by decide +kernel
theorem d_Lw_law_546 : decode b_Lw_law 546 = .ok (.iconst 1, 1) := by decide +kernel
theorem d_Lw_law_547 : decode b_Lw_law 547 = .ok (.goto 4, 3) := by decide +kernel
theorem d_Lw_law_550 : decode b_Lw_law 550 = .ok (.iconst 0, 1) := by decide +kernel
theorem d_Lw_law_551 : decode b_Lw_law 551 = .ok (.aload_n 0, 1) := by decide +kernel
theorem d_Lw_law_552 : decode b_Lw_law 552 = .ok (.iload_n 3, 1) := by decide +kernel
theorem d_Lw_law_553 : decode b_Lw_law 553 = .ok (.iconst 2, 1) := by decide +kernel
theorem d_Lw_law_554 : decode b_Lw_law 554 = .ok (.iadd, 1) := by decide +kernel
theorem d_Lw_law_555 : decode b_Lw_law 555 = .ok (.iaload, 1) := by decide +kernel
theorem d_Lw_law_556 : decode b_Lw_law 556 = .ok (.aload_n 0, 1) := by decide +kernel
theorem d_Lw_law_557 : decode b_Lw_law 557 = .ok (.iload_n 3, 1) := by decide +kernel
theorem d_Lw_law_558 : decode b_Lw_law 558 = .ok (.iconst 3, 1) := by decide +kernel
theorem d_Lw_law_559 : decode b_Lw_law 559 = .ok (.iadd, 1) := by decide +kernel
theorem d_Lw_law_560 : decode b_Lw_law 560 = .ok (.iaload, 1) := by decide +kernel
theorem d_Lw_law_561 : decode b_Lw_law 561 = .ok (.invokevirtual 93, 3) := by decide +kernel
theorem d_Lw_law_564 : decode b_Lw_law 564 = .ok (.if_icmp .eq 67, 3) := by decide +kernel
theorem d_Lw_law_567 : decode b_Lw_law 567 = .ok (.iconst 0, 1) := by decide +kernel
theorem d_Lw_law_568 : decode b_Lw_law 568 = .ok (.ireturn, 1) := by decide +kernel
theorem d_Lw_law_569 : decode b_Lw_law 569 = .ok (.aload_n 1, 1) := by decide +kernel
theorem d_Lw_law_570 : decode b_Lw_law 570 = .ok (.aload_n 0, 1) := by decide +kernel
theorem d_Lw_law_571 : decode b_Lw_law 571 = .ok (.iload_n 3, 1) := by decide +kernel
theorem d_Lw_law_572 : decode b_Lw_law 572 = .ok (.iconst 1, 1) := by decide +kernel
theorem d_Lw_law_573 : decode b_Lw_law 573 = .ok (.iadd, 1) := by decide +kernel
theorem d_Lw_law_574 : decode b_Lw_law 574 = .ok (.iaload, 1) := by decide +kernel
theorem d_Lw_law_575 : decode b_Lw_law 575 = .ok (.ifCond .eq 7, 3) := by decide +kernel
theorem d_Lw_law_578 : decode b_Lw_law 578 = .ok (.iconst 1, 1) := by decide +kernel
theorem d_Lw_law_579 : decode b_Lw_law 579 = .ok (.goto 4, 3) := by decide +kernel
theorem d_Lw_law_582 : decode b_Lw_law 582 = .ok (.iconst 0, 1) := by decide +kernel
theorem d_Lw_law_583 : decode b_Lw_law 583 = .ok (.invokevirtual 94, 3) := by decide +kernel
theorem d_Lw_law_586 : decode b_Lw_law 586 = .ok (.aload_n 2, 1) := by decide +kernel
theorem d_Lw_law_587 : decode b_Lw_law 587 = .ok (.aload_n 0, 1) := by decide +kernel
theorem d_Lw_law_588 : decode b_Lw_law 588 = .ok (.iload_n 3, 1) := by decide +kernel
theorem d_Lw_law_589 : decode b_Lw_law 589 = .ok (.iconst 1, 1) := by decide +kernel
theorem d_Lw_law_590 : decode b_Lw_law 590 = .ok (.iadd, 1) := by decide +kernel
theorem d_Lw_law_591 : decode b_Lw_law 591 = .ok (.iaload, 1) := by decide +kernel
theorem d_Lw_law_592 : decode b_Lw_law 592 = .ok (.ifCond .eq 7, 3) := by decide +kernel
theorem d_Lw_law_595 : decode b_Lw_law 595 = .ok (.iconst 1, 1) := by decide +kernel
theorem d_Lw_law_596 : decode b_Lw_law 596 = .ok (.goto 4, 3) := by decide +kernel
theorem d_Lw_law_599 : decode b_Lw_law 599 = .ok (.iconst 0, 1) := by decide +kernel
theorem d_Lw_law_600 : decode b_Lw_law 600 = .ok (.invokevirtual 97, 3) := by decide +kernel
theorem d_Lw_law_603 : decode b_Lw_law 603 = .ok (.if_icmp .eq 28, 3) := by decide +kernel
theorem d_Lw_law_606 : decode b_Lw_law 606 = .ok (.iconst 0, 1) := by decide +kernel
theorem d_Lw_law_607 : decode b_Lw_law 607 = .ok (.ireturn, 1) := by decide +kernel
theorem d_Lw_law_608 : decode b_Lw_law 608 = .ok (.aload_n 1, 1) := by decide +kernel
theorem d_Lw_law_609 : decode b_Lw_law 609 = .ok (.aload_n 0, 1) := by decide +kernel
theorem d_Lw_law_610 : decode b_Lw_law 610 = .ok (.iload_n 3, 1) := by decide +kernel
theorem d_Lw_law_611 : decode b_Lw_law 611 = .ok (.iconst 1, 1) := by decide +kernel
theorem d_Lw_law_612 : decode b_Lw_law 612 = .ok (.iadd, 1) := by decide +kernel
theorem d_Lw_law_613 : decode b_Lw_law 613 = .ok (.iaload, 1) := by decide +kernel
theorem d_Lw_law_614 : decode b_Lw_law 614 = .ok (.invokevirtual 98, 3) := by decide +kernel
theorem d_Lw_law_617 : decode b_Lw_law 617 = .ok (.aload_n 2, 1) := by decide +kernel
theorem d_Lw_law_618 : decode b_Lw_law 618 = .ok (.aload_n 0, 1) := by decide +kernel
theorem d_Lw_law_619 : decode b_Lw_law 619 = .ok (.iload_n 3, 1) := by decide +kernel
theorem d_Lw_law_620 : decode b_Lw_law 620 = .ok (.iconst 1, 1) := by decide +kernel
theorem d_Lw_law_621 : decode b_Lw_law 621 = .ok (.iadd, 1) := by decide +kernel
theorem d_Lw_law_622 : decode b_Lw_law 622 = .ok (.iaload, 1) := by decide +kernel
theorem d_Lw_law_623 : decode b_Lw_law 623 = .ok (.invokevirtual 101, 3) := by decide +kernel
theorem d_Lw_law_626 : decode b_Lw_law 626 = .ok (.if_icmp .eq 5, 3) := by decide +kernel
theorem d_Lw_law_629 : decode b_Lw_law 629 = .ok (.iconst 0, 1) := by decide +kernel
theorem d_Lw_law_630 : decode b_Lw_law 630 = .ok (.ireturn, 1) := by decide +kernel
theorem d_Lw_law_631 : decode b_Lw_law 631 = .ok (.iinc 3 4, 3) := by decide +kernel
theorem d_Lw_law_634 : decode b_Lw_law 634 = .ok (.goto (-596), 3) := by decide +kernel
theorem d_Lw_law_637 : decode b_Lw_law 637 = .ok (.iconst 1, 1) := by decide +kernel
theorem d_Lw_law_638 : decode b_Lw_law 638 = .ok (.ireturn, 1) := by decide +kernel
end
section
/-! The class's state, and how the memory holds it. -/
abbrev tyL (cI cZ cR cM : ClassId) : List (ClassId × FieldType) := [(cI, .int), (cZ, .boolean), (cR, .object "BlockTargetSession$Request"), (cM, .object "BlockTargetSession$Message")]
/-- naturals: 0 requests, 1 cache size, 2 up size, 3 down size, 4 room. ints: 0 window, 1 in session, 2 sessions, 3 sends, 4 dones, 5 credit. tables: 0 disk, 1 cache blocks, 2 cache ints, 3 kind, 4 first, 5 count, 6 value, 7 state, 10 .. 15 up messages, 20 .. 25 down messages. results. -/
abbrev G1 : Type := (Nat → Nat) × (Nat → Int32) × (Nat → Nat → Int32) × (Nat → Nat → Int32)
abbrev G1.N (G : G1) : Nat → Nat := G.1
abbrev G1.I (G : G1) : Nat → Int32 := G.2.1
abbrev G1.T (G : G1) : Nat → Nat → Int32 := G.2.2.1
abbrev G1.R (G : G1) : Nat → Nat → Int32 := G.2.2.2
def G1.sN (G : G1) (k v : Nat) : G1 := (va_up G.1 k v, G.2)
def G1.sI (G : G1) (k : Nat) (v : Int32) : G1 := (G.1, va_up G.2.1 k v, G.2.2)
def G1.sT (G : G1) (k : Nat) (f : Nat → Int32) : G1 := (G.1, G.2.1, va_up G.2.2.1 k f, G.2.2.2)
def G1.sR (G : G1) (k : Nat) (f : Nat → Int32) : G1 := (G.1, G.2.1, G.2.2.1, va_up G.2.2.2 k f)
abbrev cap (x : Nat) : Nat := 4 + 12 * x
abbrev mb (x : Nat) : Nat := 10 + 4 * x
abbrev mf (G : G1) (x j : Nat) : List Value := [.int (G.T (10 + 10 * x) j), .int (G.T (11 + 10 * x) j), .int (G.T (12 + 10 * x) j), .int (G.T (13 + 10 * x) j), .int (G.T (14 + 10 * x) j), .int (G.T (15 + 10 * x) j)]
abbrev bf (ad : Nat → Nat) (G : G1) : List Value := [.int (G.I 0), .ref (ad 1), .ref (ad 5), .int (nI (G.N 0)), .ref (ad 6), .ref (ad 8), .int (G.I 1), .int (G.I 2), .int (G.I 3), .int (G.I 4), .int (G.I 5)]
abbrev rf (ad : Nat → Nat) (G : G1) (i : Nat) : List Value := [.int (G.T 3 i), .int (G.T 4 i), .int (G.T 5 i), .int (G.T 6 i), .ref (ad (31 + 2 * i)), .int (G.T 7 i)]
def rlen (G : G1) (i : Nat) : Nat := if G.T 3 i = 1 then (G.T 5 i).toNatClampNeg else 0
def R1 (cI cR cM : ClassId) (M : Mem) (ad : Nat → Nat) (G : G1) : Prop :=
  (∀ t t', t < 30 + 2 * G.N 0 → t' < 30 + 2 * G.N 0 → ad t = ad t' → t = t') ∧
  M (ad 0) = some (ob 4 (bf ad G)) ∧
  M (ad 1) = some (ob 3 [.int (nI (G.N 4)), .ref (ad 2), .ref (ad 3), .ref (ad 4), .int (nI (G.N 1))]) ∧
  M (ad 2) = some (aI cI 16 (G.T 0)) ∧
  M (ad 3) = some (aI cI (G.N 4 + 1) (G.T 1)) ∧
  M (ad 4) = some (aI cI (G.N 4 + 1) (G.T 2)) ∧
  M (ad 5) = some (aQ cR 120 (fun i => if i < G.N 0 then some (ad (30 + 2 * i)) else none)) ∧
  (∀ x, x < 2 → M (ad (6 + 2 * x)) = some (ob 0 [.ref (ad (7 + 2 * x)), .int (nI (G.N (2 + x)))])) ∧
  (∀ x, x < 2 → M (ad (7 + 2 * x)) = some (aQ cM (cap x) (fun j => if j < cap x then some (ad (mb x + j)) else none))) ∧
  (∀ x j, x < 2 → j < cap x → M (ad (mb x + j)) = some (ob 1 (mf G x j))) ∧
  (∀ i, i < G.N 0 → M (ad (30 + 2 * i)) = some (ob 2 (rf ad G i))) ∧
  (∀ i, i < G.N 0 → M (ad (31 + 2 * i)) = some (aI cI (rlen G i) (G.R i)))
section R1S
variable {cI cR cM : ClassId} {M : Mem} {ad : Nat → Nat} {G : G1}
theorem R1.inj (h : R1 cI cR cM M ad G) {t t' : Nat} (ht : t < 30 + 2 * G.N 0) (ht' : t' < 30 + 2 * G.N 0) (hne : t ≠ t') : ad t ≠ ad t' := fun e => hne (h.1 t t' ht ht' e)
theorem R1.o (h : R1 cI cR cM M ad G) : M (ad 0) = some (ob 4 (bf ad G)) := h.2.1
theorem R1.st (h : R1 cI cR cM M ad G) : M (ad 1) = some (ob 3 [.int (nI (G.N 4)), .ref (ad 2), .ref (ad 3), .ref (ad 4), .int (nI (G.N 1))]) := h.2.2.1
theorem R1.dk (h : R1 cI cR cM M ad G) : M (ad 2) = some (aI cI 16 (G.T 0)) := h.2.2.2.1
theorem R1.cb (h : R1 cI cR cM M ad G) : M (ad 3) = some (aI cI (G.N 4 + 1) (G.T 1)) := h.2.2.2.2.1
theorem R1.cv (h : R1 cI cR cM M ad G) : M (ad 4) = some (aI cI (G.N 4 + 1) (G.T 2)) := h.2.2.2.2.2.1
theorem R1.rs (h : R1 cI cR cM M ad G) : M (ad 5) = some (aQ cR 120 (fun i => if i < G.N 0 then some (ad (30 + 2 * i)) else none)) := h.2.2.2.2.2.2.1
theorem R1.ln (h : R1 cI cR cM M ad G) (x : Nat) (hx : x < 2) : M (ad (6 + 2 * x)) = some (ob 0 [.ref (ad (7 + 2 * x)), .int (nI (G.N (2 + x)))]) := h.2.2.2.2.2.2.2.1 x hx
theorem R1.sl (h : R1 cI cR cM M ad G) (x : Nat) (hx : x < 2) : M (ad (7 + 2 * x)) = some (aQ cM (cap x) (fun j => if j < cap x then some (ad (mb x + j)) else none)) := h.2.2.2.2.2.2.2.2.1 x hx
theorem R1.ms (h : R1 cI cR cM M ad G) (x j : Nat) (hx : x < 2) (hj : j < cap x) : M (ad (mb x + j)) = some (ob 1 (mf G x j)) := h.2.2.2.2.2.2.2.2.2.1 x j hx hj
theorem R1.rq (h : R1 cI cR cM M ad G) (i : Nat) (hi : i < G.N 0) : M (ad (30 + 2 * i)) = some (ob 2 (rf ad G i)) := h.2.2.2.2.2.2.2.2.2.2.1 i hi
theorem R1.rr (h : R1 cI cR cM M ad G) (i : Nat) (hi : i < G.N 0) : M (ad (31 + 2 * i)) = some (aI cI (rlen G i) (G.R i)) := h.2.2.2.2.2.2.2.2.2.2.2 i hi
/-- a write at one tag: what must be shown of the new state -/
theorem R1.put (h : R1 cI cR cM M ad G) (t : Nat) (ht : t < 30 + 2 * G.N 0) {e : va_E} {G' : G1} (hN : G'.N 0 = G.N 0)
    (h0 : if t = 0 then e = ob 4 (bf ad G') else bf ad G' = bf ad G)
    (h1 : if t = 1 then e = ob 3 [.int (nI (G'.N 4)), .ref (ad 2), .ref (ad 3), .ref (ad 4), .int (nI (G'.N 1))] else (G'.N 4 = G.N 4 ∧ G'.N 1 = G.N 1))
    (h2 : if t = 2 then e = aI cI 16 (G'.T 0) else G'.T 0 = G.T 0)
    (h3 : if t = 3 then e = aI cI (G'.N 4 + 1) (G'.T 1) else (G'.N 4 = G.N 4 ∧ G'.T 1 = G.T 1))
    (h4 : if t = 4 then e = aI cI (G'.N 4 + 1) (G'.T 2) else (G'.N 4 = G.N 4 ∧ G'.T 2 = G.T 2))
    (h5 : t ≠ 5)
    (h6 : ∀ x, x < 2 → if t = 6 + 2 * x then e = ob 0 [.ref (ad (7 + 2 * x)), .int (nI (G'.N (2 + x)))] else G'.N (2 + x) = G.N (2 + x))
    (h7 : ∀ x, x < 2 → t ≠ 7 + 2 * x)
    (h8 : ∀ x j, x < 2 → j < cap x → if t = mb x + j then e = ob 1 (mf G' x j) else mf G' x j = mf G x j)
    (h9 : ∀ i, i < G.N 0 → if t = 30 + 2 * i then e = ob 2 (rf ad G' i) else rf ad G' i = rf ad G i)
    (h10 : ∀ i, i < G.N 0 → if t = 31 + 2 * i then e = aI cI (rlen G' i) (G'.R i) else (rlen G' i = rlen G i ∧ G'.R i = G.R i)) : R1 cI cR cM (mset M (ad t) e) ad G' := by
  have key : ∀ (t' : Nat) (e0 e1 : va_E), t' < 30 + 2 * G.N 0 → M (ad t') = some e0 → (if t = t' then e = e1 else e1 = e0) → mset M (ad t) e (ad t') = some e1 := by
    intro t' e0 e1 ht' hM hq
    by_cases htt : t = t'
    · subst htt
      rw [if_pos rfl] at hq
      rw [mset_self, hq]
    · rw [if_neg htt] at hq
      rw [mset_ne (h.inj ht' ht (Ne.symm htt)), hM, hq]
  refine ⟨?_, ?_, ?_, ?_, ?_, ?_, ?_, ?_, ?_, ?_, ?_, ?_⟩
  · rw [hN]; exact h.1
  · refine key 0 _ _ (by omega) h.o ?_
    by_cases c : t = 0
    · simp only [if_pos c] at h0 ⊢; exact h0
    · simp only [if_neg c] at h0 ⊢; rw [h0]
  · refine key 1 _ _ (by omega) h.st ?_
    by_cases c : t = 1
    · simp only [if_pos c] at h1 ⊢; exact h1
    · simp only [if_neg c] at h1 ⊢; rw [h1.1, h1.2]
  · refine key 2 _ _ (by omega) h.dk ?_
    by_cases c : t = 2
    · simp only [if_pos c] at h2 ⊢; exact h2
    · simp only [if_neg c] at h2 ⊢; rw [h2]
  · refine key 3 _ _ (by omega) h.cb ?_
    by_cases c : t = 3
    · simp only [if_pos c] at h3 ⊢; exact h3
    · simp only [if_neg c] at h3 ⊢; rw [h3.1, h3.2]
  · refine key 4 _ _ (by omega) h.cv ?_
    by_cases c : t = 4
    · simp only [if_pos c] at h4 ⊢; exact h4
    · simp only [if_neg c] at h4 ⊢; rw [h4.1, h4.2]
  · refine key 5 _ _ (by omega) h.rs ?_
    rw [if_neg h5, hN]
  · intro x hx
    refine key (6 + 2 * x) _ _ (by omega) (h.ln x hx) ?_
    have := h6 x hx
    by_cases c : t = 6 + 2 * x
    · simp only [if_pos c] at this ⊢; exact this
    · simp only [if_neg c] at this ⊢; rw [this]
  · intro x hx
    refine key (7 + 2 * x) _ _ (by omega) (h.sl x hx) ?_
    rw [if_neg (h7 x hx)]
  · intro x j hx hj
    refine key (mb x + j) _ _ (by simp only [mb, cap] at *; omega) (h.ms x j hx hj) ?_
    have := h8 x j hx hj
    by_cases c : t = mb x + j
    · simp only [if_pos c] at this ⊢; exact this
    · simp only [if_neg c] at this ⊢; rw [this]
  · intro i hi
    rw [hN] at hi
    refine key (30 + 2 * i) _ _ (by omega) (h.rq i hi) ?_
    have := h9 i hi
    by_cases c : t = 30 + 2 * i
    · simp only [if_pos c] at this ⊢; exact this
    · simp only [if_neg c] at this ⊢; rw [this]
  · intro i hi
    rw [hN] at hi
    refine key (31 + 2 * i) _ _ (by omega) (h.rr i hi) ?_
    have := h10 i hi
    by_cases c : t = 31 + 2 * i
    · simp only [if_pos c] at this ⊢; exact this
    · simp only [if_neg c] at this ⊢; rw [this.1, this.2]
end R1S
end
section
section R1P
variable {cI cR cM : ClassId} {M : Mem} {ad : Nat → Nat} {G : G1}
theorem R1.po (h : R1 cI cR cM M ad G) (k : Nat) (v : Int32) : R1 cI cR cM (mset M (ad 0) (ob 4 (bf ad (G.sI k v)))) ad (G.sI k v) :=
  h.put 0 (by omega) rfl (by rw [if_pos rfl]) (by rw [if_neg (by decide)]; exact ⟨rfl, rfl⟩) (by rw [if_neg (by decide)]; rfl) (by rw [if_neg (by decide)]; exact ⟨rfl, rfl⟩) (by rw [if_neg (by decide)]; exact ⟨rfl, rfl⟩) (by decide) (fun x hx => by rw [if_neg (by omega)]; rfl) (fun x hx => by omega) (fun x j hx hj => by rw [if_neg (by simp only [mb]; omega)]; rfl) (fun i hi => by rw [if_neg (by omega)]; rfl) (fun i hi => by rw [if_neg (by omega)]; exact ⟨rfl, rfl⟩)
theorem R1.pcs (h : R1 cI cR cM M ad G) (v : Nat) : R1 cI cR cM (mset M (ad 1) (ob 3 [.int (nI (G.N 4)), .ref (ad 2), .ref (ad 3), .ref (ad 4), .int (nI v)])) ad (G.sN 1 v) :=
  h.put 1 (by omega) rfl (by rw [if_neg (by decide)]; rfl) (by rw [if_pos rfl]; rfl) (by rw [if_neg (by decide)]; rfl) (by rw [if_neg (by decide)]; exact ⟨rfl, rfl⟩) (by rw [if_neg (by decide)]; exact ⟨rfl, rfl⟩) (by decide) (fun x hx => by rw [if_neg (by omega)]; show va_up G.1 1 v (2 + x) = _; rw [va_up_ne _ _ (by omega)]) (fun x hx => by omega) (fun x j hx hj => by rw [if_neg (by simp only [mb]; omega)]; rfl) (fun i hi => by rw [if_neg (by omega)]; rfl) (fun i hi => by rw [if_neg (by omega)]; exact ⟨rfl, rfl⟩)
theorem R1.psz (h : R1 cI cR cM M ad G) (x v : Nat) (hx : x < 2) : R1 cI cR cM (mset M (ad (6 + 2 * x)) (ob 0 [.ref (ad (7 + 2 * x)), .int (nI v)])) ad (G.sN (2 + x) v) := by
  have e0 : ∀ k, k ≠ 2 + x → (G.sN (2 + x) v).N k = G.N k := fun k hk => va_up_ne _ _ hk
  have e1 : (G.sN (2 + x) v).N (2 + x) = v := va_up_self _ _ _
  refine h.put (6 + 2 * x) (by omega) (e0 0 (by omega)) (by rw [if_neg (by omega)]; simp only [bf, e0 0 (by omega)]; rfl) (by rw [if_neg (by omega)]; exact ⟨e0 4 (by omega), e0 1 (by omega)⟩) (by rw [if_neg (by omega)]; rfl) (by rw [if_neg (by omega)]; exact ⟨e0 4 (by omega), rfl⟩) (by rw [if_neg (by omega)]; exact ⟨e0 4 (by omega), rfl⟩) (by omega) (fun y hy => ?_) (fun y hy => by omega) (fun y j hy hj => by rw [if_neg (by simp only [mb]; omega)]; rfl) (fun i hi => by rw [if_neg (by omega)]; rfl) (fun i hi => by rw [if_neg (by omega)]; exact ⟨rfl, rfl⟩)
  by_cases c : y = x
  · subst c
    rw [if_pos rfl, e1]
  · rw [if_neg (by omega)]
    exact e0 _ (by omega)
theorem R1.parr (h : R1 cI cR cM M ad G) (k : Nat) (hk : k < 3) (f : Nat → Int32) : R1 cI cR cM (mset M (ad (2 + k)) (aI cI (if k = 0 then 16 else G.N 4 + 1) f)) ad (G.sT k f) := by
  have e0 : ∀ t, t ≠ k → (G.sT k f).T t = G.T t := fun t ht => va_up_ne _ _ ht
  have e1 : (G.sT k f).T k = f := va_up_self _ _ _
  refine h.put (2 + k) (by omega) rfl (by rw [if_neg (by omega)]; rfl) (by rw [if_neg (by omega)]; exact ⟨rfl, rfl⟩) ?_ ?_ ?_ (by omega) (fun x hx => by rw [if_neg (by omega)]; rfl) (fun x hx => by omega) (fun x j hx hj => by rw [if_neg (by simp only [mb]; omega)]; simp only [mf]; rw [e0 _ (by omega), e0 _ (by omega), e0 _ (by omega), e0 _ (by omega), e0 _ (by omega), e0 _ (by omega)]) (fun i hi => by rw [if_neg (by omega)]; simp only [rf]; rw [e0 _ (by omega), e0 _ (by omega), e0 _ (by omega), e0 _ (by omega), e0 _ (by omega)]) (fun i hi => by rw [if_neg (by omega)]; exact ⟨by simp only [rlen]; rw [e0 _ (by omega), e0 _ (by omega)], rfl⟩)
  · by_cases c : k = 0
    · subst c; rw [if_pos rfl, e1]; rfl
    · rw [if_neg (by omega)]; exact e0 _ (by omega)
  · by_cases c : k = 1
    · subst c; rw [if_pos rfl, e1]; rfl
    · rw [if_neg (by omega)]; exact ⟨rfl, e0 _ (by omega)⟩
  · by_cases c : k = 2
    · subst c; rw [if_pos rfl, e1]; rfl
    · rw [if_neg (by omega)]; exact ⟨rfl, e0 _ (by omega)⟩
theorem R1.pdk (h : R1 cI cR cM M ad G) (f : Nat → Int32) : R1 cI cR cM (mset M (ad 2) (aI cI 16 f)) ad (G.sT 0 f) := h.parr 0 (by decide) f
theorem R1.pcb (h : R1 cI cR cM M ad G) (f : Nat → Int32) : R1 cI cR cM (mset M (ad 3) (aI cI (G.N 4 + 1) f)) ad (G.sT 1 f) := h.parr 1 (by decide) f
theorem R1.pcv (h : R1 cI cR cM M ad G) (f : Nat → Int32) : R1 cI cR cM (mset M (ad 4) (aI cI (G.N 4 + 1) f)) ad (G.sT 2 f) := h.parr 2 (by decide) f
theorem R1.pmsg (h : R1 cI cR cM M ad G) (x j : Nat) (hx : x < 2) (hj : j < cap x) {G' : G1} (hN : G'.N = G.N) (hI : G'.I = G.I) (hR : G'.R = G.R) (hT : ∀ t i, ¬ (10 + 10 * x ≤ t ∧ t ≤ 15 + 10 * x ∧ i = j) → G'.T t i = G.T t i) : R1 cI cR cM (mset M (ad (mb x + j)) (ob 1 (mf G' x j))) ad G' := by
  have eT : ∀ t, t < 10 → G'.T t = G.T t := fun t ht => funext fun i => hT t i (by omega)
  simp only [mb, cap] at *
  refine h.put (10 + 4 * x + j) (by omega) (by rw [hN]) (by rw [if_neg (by omega)]; simp only [bf, hN, hI]) (by rw [if_neg (by omega), hN]; exact ⟨rfl, rfl⟩) (by rw [if_neg (by omega)]; exact eT 0 (by omega)) (by rw [if_neg (by omega), hN]; exact ⟨rfl, eT 1 (by omega)⟩) (by rw [if_neg (by omega), hN]; exact ⟨rfl, eT 2 (by omega)⟩) (by omega) (fun y hy => by rw [if_neg (by omega), hN]) (fun y hy => by omega) (fun y i hy hi => ?_) (fun i hi => by rw [if_neg (by omega)]; simp only [rf]; rw [eT 3 (by omega), eT 4 (by omega), eT 5 (by omega), eT 6 (by omega), eT 7 (by omega)]) (fun i hi => by rw [if_neg (by omega), hR]; exact ⟨by simp only [rlen]; rw [eT 3 (by omega), eT 5 (by omega)], rfl⟩)
  simp only [mb, cap] at *
  by_cases c : 10 + 4 * x + j = 10 + 4 * y + i
  · have : x = y := by omega
    subst this
    have : j = i := by omega
    subst this
    rw [if_pos rfl]
  · rw [if_neg c]
    simp only [mf]
    rw [hT _ i (by omega), hT _ i (by omega), hT _ i (by omega), hT _ i (by omega), hT _ i (by omega), hT _ i (by omega)]
theorem R1.preq (h : R1 cI cR cM M ad G) (i : Nat) (hi : i < G.N 0) (v : Int32) : R1 cI cR cM (mset M (ad (30 + 2 * i)) (ob 2 [.int (G.T 3 i), .int (G.T 4 i), .int (G.T 5 i), .int (G.T 6 i), .ref (ad (31 + 2 * i)), .int v])) ad (G.sT 7 (upd (G.T 7) i v)) := by
  have e0 : ∀ t, t ≠ 7 → (G.sT 7 (upd (G.T 7) i v)).T t = G.T t := fun t ht => va_up_ne _ _ ht
  have e1 : (G.sT 7 (upd (G.T 7) i v)).T 7 = upd (G.T 7) i v := va_up_self G.2.2.1 7 (upd (G.T 7) i v)
  refine h.put (30 + 2 * i) (by omega) rfl (by rw [if_neg (by omega)]; rfl) (by rw [if_neg (by omega)]; exact ⟨rfl, rfl⟩) (by rw [if_neg (by omega)]; rfl) (by rw [if_neg (by omega)]; exact ⟨rfl, rfl⟩) (by rw [if_neg (by omega)]; exact ⟨rfl, rfl⟩) (by omega) (fun x hx => by rw [if_neg (by omega)]; rfl) (fun x hx => by omega) (fun x j hx hj => by rw [if_neg (by simp only [mb, cap] at *; omega)]; simp only [mf]; rw [e0 _ (by omega), e0 _ (by omega), e0 _ (by omega), e0 _ (by omega), e0 _ (by omega), e0 _ (by omega)]) (fun q hq => ?_) (fun q hq => by rw [if_neg (by omega)]; exact ⟨by simp only [rlen]; rw [e0 _ (by omega), e0 _ (by omega)], rfl⟩)
  simp only [rf]
  rw [e0 3 (by omega), e0 4 (by omega), e0 5 (by omega), e0 6 (by omega), e1]
  by_cases c : q = i
  · subst c
    rw [if_pos rfl, pk_us]
  · rw [if_neg (by omega), pk_un c]
theorem R1.prr (h : R1 cI cR cM M ad G) (i : Nat) (hi : i < G.N 0) (f : Nat → Int32) : R1 cI cR cM (mset M (ad (31 + 2 * i)) (aI cI (rlen G i) f)) ad (G.sR i f) := by
  refine h.put (31 + 2 * i) (by omega) rfl (by rw [if_neg (by omega)]; rfl) (by rw [if_neg (by omega)]; exact ⟨rfl, rfl⟩) (by rw [if_neg (by omega)]; rfl) (by rw [if_neg (by omega)]; exact ⟨rfl, rfl⟩) (by rw [if_neg (by omega)]; exact ⟨rfl, rfl⟩) (by omega) (fun x hx => by rw [if_neg (by omega)]; rfl) (fun x hx => by omega) (fun x j hx hj => by rw [if_neg (by simp only [mb, cap] at *; omega)]; rfl) (fun q hq => by rw [if_neg (by omega)]; rfl) (fun q hq => ?_)
  by_cases c : q = i
  · subst c
    rw [if_pos rfl]
    show _ = aI cI _ (va_up G.2.2.2 q f q)
    rw [va_up_self]
    rfl
  · rw [if_neg (by omega)]
    exact ⟨rfl, va_up_ne _ _ c⟩
end R1P
end
section
theorem fr_ne {M : Mem} {q b : Nat} {e : va_E} (h : M q = none) (hb : M b = some e) : b ≠ q := fun z => by rw [z, h] at hb; cases hb
theorem hy_Bs_init : y_Bs_init.cls ≠ "java/lang/invoke/MethodHandle" ∧ y_Bs_init.cls ≠ "java/lang/invoke/VarHandle" ∧ (parseMethodDescriptor y_Bs_init.desc).map (fun d => d.parameters.length) = some 2 := by decide +kernel
theorem hy_Ln_init : y_Ln_init.cls ≠ "java/lang/invoke/MethodHandle" ∧ y_Ln_init.cls ≠ "java/lang/invoke/VarHandle" ∧ (parseMethodDescriptor y_Ln_init.desc).map (fun d => d.parameters.length) = some 1 := by decide +kernel
theorem hy_Ms_init : y_Ms_init.cls ≠ "java/lang/invoke/MethodHandle" ∧ y_Ms_init.cls ≠ "java/lang/invoke/VarHandle" ∧ (parseMethodDescriptor y_Ms_init.desc).map (fun d => d.parameters.length) = some 0 := by decide +kernel
theorem hy_Bs_clamp : y_Bs_clamp.cls ≠ "java/lang/invoke/MethodHandle" ∧ y_Bs_clamp.cls ≠ "java/lang/invoke/VarHandle" ∧ (parseMethodDescriptor y_Bs_clamp.desc).map (fun d => d.parameters.length) = some 3 := by decide +kernel
theorem hy_St_init : y_St_init.cls ≠ "java/lang/invoke/MethodHandle" ∧ y_St_init.cls ≠ "java/lang/invoke/VarHandle" ∧ (parseMethodDescriptor y_St_init.desc).map (fun d => d.parameters.length) = some 1 := by decide +kernel
theorem hy_Bs_beginSession : y_Bs_beginSession.cls ≠ "java/lang/invoke/MethodHandle" ∧ y_Bs_beginSession.cls ≠ "java/lang/invoke/VarHandle" ∧ (parseMethodDescriptor y_Bs_beginSession.desc).map (fun d => d.parameters.length) = some 0 := by decide +kernel
theorem hy_Bs_write : y_Bs_write.cls ≠ "java/lang/invoke/MethodHandle" ∧ y_Bs_write.cls ≠ "java/lang/invoke/VarHandle" ∧ (parseMethodDescriptor y_Bs_write.desc).map (fun d => d.parameters.length) = some 3 := by decide +kernel
theorem hy_Bs_isStretch : y_Bs_isStretch.cls ≠ "java/lang/invoke/MethodHandle" ∧ y_Bs_isStretch.cls ≠ "java/lang/invoke/VarHandle" ∧ (parseMethodDescriptor y_Bs_isStretch.desc).map (fun d => d.parameters.length) = some 2 := by decide +kernel
theorem hy_Bs_isBlock : y_Bs_isBlock.cls ≠ "java/lang/invoke/MethodHandle" ∧ y_Bs_isBlock.cls ≠ "java/lang/invoke/VarHandle" ∧ (parseMethodDescriptor y_Bs_isBlock.desc).map (fun d => d.parameters.length) = some 1 := by decide +kernel
theorem hy_Bs_addRequest : y_Bs_addRequest.cls ≠ "java/lang/invoke/MethodHandle" ∧ y_Bs_addRequest.cls ≠ "java/lang/invoke/VarHandle" ∧ (parseMethodDescriptor y_Bs_addRequest.desc).map (fun d => d.parameters.length) = some 4 := by decide +kernel
theorem hy_Rq_init : y_Rq_init.cls ≠ "java/lang/invoke/MethodHandle" ∧ y_Rq_init.cls ≠ "java/lang/invoke/VarHandle" ∧ (parseMethodDescriptor y_Rq_init.desc).map (fun d => d.parameters.length) = some 4 := by decide +kernel
theorem hy_Bs_read : y_Bs_read.cls ≠ "java/lang/invoke/MethodHandle" ∧ y_Bs_read.cls ≠ "java/lang/invoke/VarHandle" ∧ (parseMethodDescriptor y_Bs_read.desc).map (fun d => d.parameters.length) = some 2 := by decide +kernel
theorem hy_Bs_sync : y_Bs_sync.cls ≠ "java/lang/invoke/MethodHandle" ∧ y_Bs_sync.cls ≠ "java/lang/invoke/VarHandle" ∧ (parseMethodDescriptor y_Bs_sync.desc).map (fun d => d.parameters.length) = some 0 := by decide +kernel
theorem hy_Bs_send : y_Bs_send.cls ≠ "java/lang/invoke/MethodHandle" ∧ y_Bs_send.cls ≠ "java/lang/invoke/VarHandle" ∧ (parseMethodDescriptor y_Bs_send.desc).map (fun d => d.parameters.length) = some 0 := by decide +kernel
theorem hy_Bs_firstOpenRequest : y_Bs_firstOpenRequest.cls ≠ "java/lang/invoke/MethodHandle" ∧ y_Bs_firstOpenRequest.cls ≠ "java/lang/invoke/VarHandle" ∧ (parseMethodDescriptor y_Bs_firstOpenRequest.desc).map (fun d => d.parameters.length) = some 0 := by decide +kernel
theorem hy_Bs_sendUp : y_Bs_sendUp.cls ≠ "java/lang/invoke/MethodHandle" ∧ y_Bs_sendUp.cls ≠ "java/lang/invoke/VarHandle" ∧ (parseMethodDescriptor y_Bs_sendUp.desc).map (fun d => d.parameters.length) = some 3 := by decide +kernel
theorem hy_Ln_putNewest : y_Ln_putNewest.cls ≠ "java/lang/invoke/MethodHandle" ∧ y_Ln_putNewest.cls ≠ "java/lang/invoke/VarHandle" ∧ (parseMethodDescriptor y_Ln_putNewest.desc).map (fun d => d.parameters.length) = some 0 := by decide +kernel
theorem hy_Ms_fill : y_Ms_fill.cls ≠ "java/lang/invoke/MethodHandle" ∧ y_Ms_fill.cls ≠ "java/lang/invoke/VarHandle" ∧ (parseMethodDescriptor y_Ms_fill.desc).map (fun d => d.parameters.length) = some 5 := by decide +kernel
theorem hy_Bs_deliver : y_Bs_deliver.cls ≠ "java/lang/invoke/MethodHandle" ∧ y_Bs_deliver.cls ≠ "java/lang/invoke/VarHandle" ∧ (parseMethodDescriptor y_Bs_deliver.desc).map (fun d => d.parameters.length) = some 1 := by decide +kernel
theorem hy_Bs_lineOf : y_Bs_lineOf.cls ≠ "java/lang/invoke/MethodHandle" ∧ y_Bs_lineOf.cls ≠ "java/lang/invoke/VarHandle" ∧ (parseMethodDescriptor y_Bs_lineOf.desc).map (fun d => d.parameters.length) = some 1 := by decide +kernel
theorem hy_Ln_takeOldest : y_Ln_takeOldest.cls ≠ "java/lang/invoke/MethodHandle" ∧ y_Ln_takeOldest.cls ≠ "java/lang/invoke/VarHandle" ∧ (parseMethodDescriptor y_Ln_takeOldest.desc).map (fun d => d.parameters.length) = some 0 := by decide +kernel
theorem hy_Bs_breakSession : y_Bs_breakSession.cls ≠ "java/lang/invoke/MethodHandle" ∧ y_Bs_breakSession.cls ≠ "java/lang/invoke/VarHandle" ∧ (parseMethodDescriptor y_Bs_breakSession.desc).map (fun d => d.parameters.length) = some 0 := by decide +kernel
theorem hy_Ln_clear : y_Ln_clear.cls ≠ "java/lang/invoke/MethodHandle" ∧ y_Ln_clear.cls ≠ "java/lang/invoke/VarHandle" ∧ (parseMethodDescriptor y_Ln_clear.desc).map (fun d => d.parameters.length) = some 0 := by decide +kernel
theorem hy_Rq_reopen : y_Rq_reopen.cls ≠ "java/lang/invoke/MethodHandle" ∧ y_Rq_reopen.cls ≠ "java/lang/invoke/VarHandle" ∧ (parseMethodDescriptor y_Rq_reopen.desc).map (fun d => d.parameters.length) = some 0 := by decide +kernel
theorem hy_Ar_fill : y_Ar_fill.cls ≠ "java/lang/invoke/MethodHandle" ∧ y_Ar_fill.cls ≠ "java/lang/invoke/VarHandle" ∧ (parseMethodDescriptor y_Ar_fill.desc).map (fun d => d.parameters.length) = some 2 := by decide +kernel
theorem hy_Bs_workAtTarget : y_Bs_workAtTarget.cls ≠ "java/lang/invoke/MethodHandle" ∧ y_Bs_workAtTarget.cls ≠ "java/lang/invoke/VarHandle" ∧ (parseMethodDescriptor y_Bs_workAtTarget.desc).map (fun d => d.parameters.length) = some 1 := by decide +kernel
theorem hy_Bs_requestAt : y_Bs_requestAt.cls ≠ "java/lang/invoke/MethodHandle" ∧ y_Bs_requestAt.cls ≠ "java/lang/invoke/VarHandle" ∧ (parseMethodDescriptor y_Bs_requestAt.desc).map (fun d => d.parameters.length) = some 1 := by decide +kernel
theorem hy_Bs_workPartOfWrite : y_Bs_workPartOfWrite.cls ≠ "java/lang/invoke/MethodHandle" ∧ y_Bs_workPartOfWrite.cls ≠ "java/lang/invoke/VarHandle" ∧ (parseMethodDescriptor y_Bs_workPartOfWrite.desc).map (fun d => d.parameters.length) = some 3 := by decide +kernel
theorem hy_Bs_sendDown : y_Bs_sendDown.cls ≠ "java/lang/invoke/MethodHandle" ∧ y_Bs_sendDown.cls ≠ "java/lang/invoke/VarHandle" ∧ (parseMethodDescriptor y_Bs_sendDown.desc).map (fun d => d.parameters.length) = some 4 := by decide +kernel
theorem hy_St_put : y_St_put.cls ≠ "java/lang/invoke/MethodHandle" ∧ y_St_put.cls ≠ "java/lang/invoke/VarHandle" ∧ (parseMethodDescriptor y_St_put.desc).map (fun d => d.parameters.length) = some 2 := by decide +kernel
theorem hy_St_placeOf : y_St_placeOf.cls ≠ "java/lang/invoke/MethodHandle" ∧ y_St_placeOf.cls ≠ "java/lang/invoke/VarHandle" ∧ (parseMethodDescriptor y_St_placeOf.desc).map (fun d => d.parameters.length) = some 1 := by decide +kernel
theorem hy_St_writeBackFirst : y_St_writeBackFirst.cls ≠ "java/lang/invoke/MethodHandle" ∧ y_St_writeBackFirst.cls ≠ "java/lang/invoke/VarHandle" ∧ (parseMethodDescriptor y_St_writeBackFirst.desc).map (fun d => d.parameters.length) = some 0 := by decide +kernel
theorem hy_Bs_finish : y_Bs_finish.cls ≠ "java/lang/invoke/MethodHandle" ∧ y_Bs_finish.cls ≠ "java/lang/invoke/VarHandle" ∧ (parseMethodDescriptor y_Bs_finish.desc).map (fun d => d.parameters.length) = some 1 := by decide +kernel
theorem hy_Bs_workRead : y_Bs_workRead.cls ≠ "java/lang/invoke/MethodHandle" ∧ y_Bs_workRead.cls ≠ "java/lang/invoke/VarHandle" ∧ (parseMethodDescriptor y_Bs_workRead.desc).map (fun d => d.parameters.length) = some 2 := by decide +kernel
theorem hy_St_presentInt : y_St_presentInt.cls ≠ "java/lang/invoke/MethodHandle" ∧ y_St_presentInt.cls ≠ "java/lang/invoke/VarHandle" ∧ (parseMethodDescriptor y_St_presentInt.desc).map (fun d => d.parameters.length) = some 1 := by decide +kernel
theorem hy_Bs_workSync : y_Bs_workSync.cls ≠ "java/lang/invoke/MethodHandle" ∧ y_Bs_workSync.cls ≠ "java/lang/invoke/VarHandle" ∧ (parseMethodDescriptor y_Bs_workSync.desc).map (fun d => d.parameters.length) = some 1 := by decide +kernel
theorem hy_St_writeBackAll : y_St_writeBackAll.cls ≠ "java/lang/invoke/MethodHandle" ∧ y_St_writeBackAll.cls ≠ "java/lang/invoke/VarHandle" ∧ (parseMethodDescriptor y_St_writeBackAll.desc).map (fun d => d.parameters.length) = some 0 := by decide +kernel
theorem hy_Bs_takeAtInitiator : y_Bs_takeAtInitiator.cls ≠ "java/lang/invoke/MethodHandle" ∧ y_Bs_takeAtInitiator.cls ≠ "java/lang/invoke/VarHandle" ∧ (parseMethodDescriptor y_Bs_takeAtInitiator.desc).map (fun d => d.parameters.length) = some 1 := by decide +kernel
theorem hy_Rq_keepResult : y_Rq_keepResult.cls ≠ "java/lang/invoke/MethodHandle" ∧ y_Rq_keepResult.cls ≠ "java/lang/invoke/VarHandle" ∧ (parseMethodDescriptor y_Rq_keepResult.desc).map (fun d => d.parameters.length) = some 2 := by decide +kernel
theorem hy_Bs_damage : y_Bs_damage.cls ≠ "java/lang/invoke/MethodHandle" ∧ y_Bs_damage.cls ≠ "java/lang/invoke/VarHandle" ∧ (parseMethodDescriptor y_Bs_damage.desc).map (fun d => d.parameters.length) = some 2 := by decide +kernel
theorem hy_Ln_messageAt : y_Ln_messageAt.cls ≠ "java/lang/invoke/MethodHandle" ∧ y_Ln_messageAt.cls ≠ "java/lang/invoke/VarHandle" ∧ (parseMethodDescriptor y_Ln_messageAt.desc).map (fun d => d.parameters.length) = some 1 := by decide +kernel
theorem hy_Bs_drop : y_Bs_drop.cls ≠ "java/lang/invoke/MethodHandle" ∧ y_Bs_drop.cls ≠ "java/lang/invoke/VarHandle" ∧ (parseMethodDescriptor y_Bs_drop.desc).map (fun d => d.parameters.length) = some 0 := by decide +kernel
theorem hy_Bs_crash : y_Bs_crash.cls ≠ "java/lang/invoke/MethodHandle" ∧ y_Bs_crash.cls ≠ "java/lang/invoke/VarHandle" ∧ (parseMethodDescriptor y_Bs_crash.desc).map (fun d => d.parameters.length) = some 0 := by decide +kernel
theorem hy_St_loseCache : y_St_loseCache.cls ≠ "java/lang/invoke/MethodHandle" ∧ y_St_loseCache.cls ≠ "java/lang/invoke/VarHandle" ∧ (parseMethodDescriptor y_St_loseCache.desc).map (fun d => d.parameters.length) = some 0 := by decide +kernel
theorem hy_Bs_login : y_Bs_login.cls ≠ "java/lang/invoke/MethodHandle" ∧ y_Bs_login.cls ≠ "java/lang/invoke/VarHandle" ∧ (parseMethodDescriptor y_Bs_login.desc).map (fun d => d.parameters.length) = some 0 := by decide +kernel
theorem hy_Bs_requestsIn : y_Bs_requestsIn.cls ≠ "java/lang/invoke/MethodHandle" ∧ y_Bs_requestsIn.cls ≠ "java/lang/invoke/VarHandle" ∧ (parseMethodDescriptor y_Bs_requestsIn.desc).map (fun d => d.parameters.length) = some 1 := by decide +kernel
theorem hy_Bs_flush : y_Bs_flush.cls ≠ "java/lang/invoke/MethodHandle" ∧ y_Bs_flush.cls ≠ "java/lang/invoke/VarHandle" ∧ (parseMethodDescriptor y_Bs_flush.desc).map (fun d => d.parameters.length) = some 0 := by decide +kernel
theorem hy_Bs_state : y_Bs_state.cls ≠ "java/lang/invoke/MethodHandle" ∧ y_Bs_state.cls ≠ "java/lang/invoke/VarHandle" ∧ (parseMethodDescriptor y_Bs_state.desc).map (fun d => d.parameters.length) = some 1 := by decide +kernel
theorem hy_Bs_result : y_Bs_result.cls ≠ "java/lang/invoke/MethodHandle" ∧ y_Bs_result.cls ≠ "java/lang/invoke/VarHandle" ∧ (parseMethodDescriptor y_Bs_result.desc).map (fun d => d.parameters.length) = some 2 := by decide +kernel
theorem hy_Bs_present : y_Bs_present.cls ≠ "java/lang/invoke/MethodHandle" ∧ y_Bs_present.cls ≠ "java/lang/invoke/VarHandle" ∧ (parseMethodDescriptor y_Bs_present.desc).map (fun d => d.parameters.length) = some 1 := by decide +kernel
theorem hy_Bs_disk : y_Bs_disk.cls ≠ "java/lang/invoke/MethodHandle" ∧ y_Bs_disk.cls ≠ "java/lang/invoke/VarHandle" ∧ (parseMethodDescriptor y_Bs_disk.desc).map (fun d => d.parameters.length) = some 1 := by decide +kernel
theorem hy_Bs_cached : y_Bs_cached.cls ≠ "java/lang/invoke/MethodHandle" ∧ y_Bs_cached.cls ≠ "java/lang/invoke/VarHandle" ∧ (parseMethodDescriptor y_Bs_cached.desc).map (fun d => d.parameters.length) = some 1 := by decide +kernel
theorem hy_St_blockAt : y_St_blockAt.cls ≠ "java/lang/invoke/MethodHandle" ∧ y_St_blockAt.cls ≠ "java/lang/invoke/VarHandle" ∧ (parseMethodDescriptor y_St_blockAt.desc).map (fun d => d.parameters.length) = some 1 := by decide +kernel
theorem hy_Bs_message : y_Bs_message.cls ≠ "java/lang/invoke/MethodHandle" ∧ y_Bs_message.cls ≠ "java/lang/invoke/VarHandle" ∧ (parseMethodDescriptor y_Bs_message.desc).map (fun d => d.parameters.length) = some 3 := by decide +kernel
theorem hy_Bs_waiting : y_Bs_waiting.cls ≠ "java/lang/invoke/MethodHandle" ∧ y_Bs_waiting.cls ≠ "java/lang/invoke/VarHandle" ∧ (parseMethodDescriptor y_Bs_waiting.desc).map (fun d => d.parameters.length) = some 1 := by decide +kernel
theorem hy_Bs_count : y_Bs_count.cls ≠ "java/lang/invoke/MethodHandle" ∧ y_Bs_count.cls ≠ "java/lang/invoke/VarHandle" ∧ (parseMethodDescriptor y_Bs_count.desc).map (fun d => d.parameters.length) = some 1 := by decide +kernel
theorem hy_Lw_cell : y_Lw_cell.cls ≠ "java/lang/invoke/MethodHandle" ∧ y_Lw_cell.cls ≠ "java/lang/invoke/VarHandle" ∧ (parseMethodDescriptor y_Lw_cell.desc).map (fun d => d.parameters.length) = some 2 := by decide +kernel
theorem hy_Md_init : y_Md_init.cls ≠ "java/lang/invoke/MethodHandle" ∧ y_Md_init.cls ≠ "java/lang/invoke/VarHandle" ∧ (parseMethodDescriptor y_Md_init.desc).map (fun d => d.parameters.length) = some 2 := by decide +kernel
theorem hy_Md_write : y_Md_write.cls ≠ "java/lang/invoke/MethodHandle" ∧ y_Md_write.cls ≠ "java/lang/invoke/VarHandle" ∧ (parseMethodDescriptor y_Md_write.desc).map (fun d => d.parameters.length) = some 3 := by decide +kernel
theorem hy_Md_outside : y_Md_outside.cls ≠ "java/lang/invoke/MethodHandle" ∧ y_Md_outside.cls ≠ "java/lang/invoke/VarHandle" ∧ (parseMethodDescriptor y_Md_outside.desc).map (fun d => d.parameters.length) = some 2 := by decide +kernel
theorem hy_Md_add : y_Md_add.cls ≠ "java/lang/invoke/MethodHandle" ∧ y_Md_add.cls ≠ "java/lang/invoke/VarHandle" ∧ (parseMethodDescriptor y_Md_add.desc).map (fun d => d.parameters.length) = some 4 := by decide +kernel
theorem hy_Md_read : y_Md_read.cls ≠ "java/lang/invoke/MethodHandle" ∧ y_Md_read.cls ≠ "java/lang/invoke/VarHandle" ∧ (parseMethodDescriptor y_Md_read.desc).map (fun d => d.parameters.length) = some 2 := by decide +kernel
theorem hy_Md_sync : y_Md_sync.cls ≠ "java/lang/invoke/MethodHandle" ∧ y_Md_sync.cls ≠ "java/lang/invoke/VarHandle" ∧ (parseMethodDescriptor y_Md_sync.desc).map (fun d => d.parameters.length) = some 0 := by decide +kernel
theorem hy_Md_flush : y_Md_flush.cls ≠ "java/lang/invoke/MethodHandle" ∧ y_Md_flush.cls ≠ "java/lang/invoke/VarHandle" ∧ (parseMethodDescriptor y_Md_flush.desc).map (fun d => d.parameters.length) = some 0 := by decide +kernel
theorem hy_Md_blockAt : y_Md_blockAt.cls ≠ "java/lang/invoke/MethodHandle" ∧ y_Md_blockAt.cls ≠ "java/lang/invoke/VarHandle" ∧ (parseMethodDescriptor y_Md_blockAt.desc).map (fun d => d.parameters.length) = some 1 := by decide +kernel
theorem hy_Md_send : y_Md_send.cls ≠ "java/lang/invoke/MethodHandle" ∧ y_Md_send.cls ≠ "java/lang/invoke/VarHandle" ∧ (parseMethodDescriptor y_Md_send.desc).map (fun d => d.parameters.length) = some 0 := by decide +kernel
theorem hy_Md_number : y_Md_number.cls ≠ "java/lang/invoke/MethodHandle" ∧ y_Md_number.cls ≠ "java/lang/invoke/VarHandle" ∧ (parseMethodDescriptor y_Md_number.desc).map (fun d => d.parameters.length) = some 1 := by decide +kernel
theorem hy_Md_post : y_Md_post.cls ≠ "java/lang/invoke/MethodHandle" ∧ y_Md_post.cls ≠ "java/lang/invoke/VarHandle" ∧ (parseMethodDescriptor y_Md_post.desc).map (fun d => d.parameters.length) = some 5 := by decide +kernel
theorem hy_Md_deliver : y_Md_deliver.cls ≠ "java/lang/invoke/MethodHandle" ∧ y_Md_deliver.cls ≠ "java/lang/invoke/VarHandle" ∧ (parseMethodDescriptor y_Md_deliver.desc).map (fun d => d.parameters.length) = some 1 := by decide +kernel
theorem hy_Md_end : y_Md_end.cls ≠ "java/lang/invoke/MethodHandle" ∧ y_Md_end.cls ≠ "java/lang/invoke/VarHandle" ∧ (parseMethodDescriptor y_Md_end.desc).map (fun d => d.parameters.length) = some 0 := by decide +kernel
theorem hy_Md_work : y_Md_work.cls ≠ "java/lang/invoke/MethodHandle" ∧ y_Md_work.cls ≠ "java/lang/invoke/VarHandle" ∧ (parseMethodDescriptor y_Md_work.desc).map (fun d => d.parameters.length) = some 3 := by decide +kernel
theorem hy_Md_putAll : y_Md_putAll.cls ≠ "java/lang/invoke/MethodHandle" ∧ y_Md_putAll.cls ≠ "java/lang/invoke/VarHandle" ∧ (parseMethodDescriptor y_Md_putAll.desc).map (fun d => d.parameters.length) = some 1 := by decide +kernel
theorem hy_Md_put : y_Md_put.cls ≠ "java/lang/invoke/MethodHandle" ∧ y_Md_put.cls ≠ "java/lang/invoke/VarHandle" ∧ (parseMethodDescriptor y_Md_put.desc).map (fun d => d.parameters.length) = some 2 := by decide +kernel
theorem hy_Md_size : y_Md_size.cls ≠ "java/lang/invoke/MethodHandle" ∧ y_Md_size.cls ≠ "java/lang/invoke/VarHandle" ∧ (parseMethodDescriptor y_Md_size.desc).map (fun d => d.parameters.length) = some 0 := by decide +kernel
theorem hy_Md_finish : y_Md_finish.cls ≠ "java/lang/invoke/MethodHandle" ∧ y_Md_finish.cls ≠ "java/lang/invoke/VarHandle" ∧ (parseMethodDescriptor y_Md_finish.desc).map (fun d => d.parameters.length) = some 1 := by decide +kernel
theorem hy_Md_valueOf : y_Md_valueOf.cls ≠ "java/lang/invoke/MethodHandle" ∧ y_Md_valueOf.cls ≠ "java/lang/invoke/VarHandle" ∧ (parseMethodDescriptor y_Md_valueOf.desc).map (fun d => d.parameters.length) = some 1 := by decide +kernel
theorem hy_Md_take : y_Md_take.cls ≠ "java/lang/invoke/MethodHandle" ∧ y_Md_take.cls ≠ "java/lang/invoke/VarHandle" ∧ (parseMethodDescriptor y_Md_take.desc).map (fun d => d.parameters.length) = some 5 := by decide +kernel
theorem hy_Md_damage : y_Md_damage.cls ≠ "java/lang/invoke/MethodHandle" ∧ y_Md_damage.cls ≠ "java/lang/invoke/VarHandle" ∧ (parseMethodDescriptor y_Md_damage.desc).map (fun d => d.parameters.length) = some 2 := by decide +kernel
theorem hy_Md_drop : y_Md_drop.cls ≠ "java/lang/invoke/MethodHandle" ∧ y_Md_drop.cls ≠ "java/lang/invoke/VarHandle" ∧ (parseMethodDescriptor y_Md_drop.desc).map (fun d => d.parameters.length) = some 0 := by decide +kernel
theorem hy_Md_crash : y_Md_crash.cls ≠ "java/lang/invoke/MethodHandle" ∧ y_Md_crash.cls ≠ "java/lang/invoke/VarHandle" ∧ (parseMethodDescriptor y_Md_crash.desc).map (fun d => d.parameters.length) = some 0 := by decide +kernel
theorem hy_Md_login : y_Md_login.cls ≠ "java/lang/invoke/MethodHandle" ∧ y_Md_login.cls ≠ "java/lang/invoke/VarHandle" ∧ (parseMethodDescriptor y_Md_login.desc).map (fun d => d.parameters.length) = some 0 := by decide +kernel
theorem hy_Md_state : y_Md_state.cls ≠ "java/lang/invoke/MethodHandle" ∧ y_Md_state.cls ≠ "java/lang/invoke/VarHandle" ∧ (parseMethodDescriptor y_Md_state.desc).map (fun d => d.parameters.length) = some 1 := by decide +kernel
theorem hy_Md_result : y_Md_result.cls ≠ "java/lang/invoke/MethodHandle" ∧ y_Md_result.cls ≠ "java/lang/invoke/VarHandle" ∧ (parseMethodDescriptor y_Md_result.desc).map (fun d => d.parameters.length) = some 2 := by decide +kernel
theorem hy_Md_present : y_Md_present.cls ≠ "java/lang/invoke/MethodHandle" ∧ y_Md_present.cls ≠ "java/lang/invoke/VarHandle" ∧ (parseMethodDescriptor y_Md_present.desc).map (fun d => d.parameters.length) = some 1 := by decide +kernel
theorem hy_Md_disk : y_Md_disk.cls ≠ "java/lang/invoke/MethodHandle" ∧ y_Md_disk.cls ≠ "java/lang/invoke/VarHandle" ∧ (parseMethodDescriptor y_Md_disk.desc).map (fun d => d.parameters.length) = some 1 := by decide +kernel
theorem hy_Md_cached : y_Md_cached.cls ≠ "java/lang/invoke/MethodHandle" ∧ y_Md_cached.cls ≠ "java/lang/invoke/VarHandle" ∧ (parseMethodDescriptor y_Md_cached.desc).map (fun d => d.parameters.length) = some 1 := by decide +kernel
theorem hy_Md_message : y_Md_message.cls ≠ "java/lang/invoke/MethodHandle" ∧ y_Md_message.cls ≠ "java/lang/invoke/VarHandle" ∧ (parseMethodDescriptor y_Md_message.desc).map (fun d => d.parameters.length) = some 3 := by decide +kernel
theorem hy_Md_waiting : y_Md_waiting.cls ≠ "java/lang/invoke/MethodHandle" ∧ y_Md_waiting.cls ≠ "java/lang/invoke/VarHandle" ∧ (parseMethodDescriptor y_Md_waiting.desc).map (fun d => d.parameters.length) = some 1 := by decide +kernel
theorem hy_Md_count : y_Md_count.cls ≠ "java/lang/invoke/MethodHandle" ∧ y_Md_count.cls ≠ "java/lang/invoke/VarHandle" ∧ (parseMethodDescriptor y_Md_count.desc).map (fun d => d.parameters.length) = some 1 := by decide +kernel
theorem hy_Lw_law : y_Lw_law.cls ≠ "java/lang/invoke/MethodHandle" ∧ y_Lw_law.cls ≠ "java/lang/invoke/VarHandle" ∧ (parseMethodDescriptor y_Lw_law.desc).map (fun d => d.parameters.length) = some 1 := by decide +kernel
set_option maxHeartbeats 4000000 in
set_option maxRecDepth 100000 in
theorem ct_Ln_clear {D : va_G} {l : Launch} {cI cZ cR cM : ClassId} {M : Mem} {ln sl sz : Nat} (h1 : M ln = some (ob 0 [.ref sl, .int (nI sz)])) : Ct TT D cls (tyL cI cZ cR cM) l y_Ln_clear b_Ln_clear 1 none 0 0 0 0 [.ref ln] M (fun rv M' => rv = none ∧ M' = mset M ln (ob 0 [.ref sl, .int (nI 0)])) := by
  refine ct_of "BlockTargetSession$Line" rfl (by decide) (Nat.le_of_ble_eq_true rfl) ?_
  intro Z hl hD hnm hQ C
  subst hl
  subst hD
  show V cls 1 (rmOf 0 0 0 0) Z 0 [(0, .ref ln)] [] M 0 0
  refine v_aload_n C (i := 0) d_Ln_clear_0 rfl rfl ?_
  refine v_iconst C (v := 0) d_Ln_clear_1 (by decide) ?_
  refine v_put C in_Ln t_Ln to_Ln nm_Ln h1 cl_Ln 1 (by decide) (fs' := [.ref sl, .int 0]) w_58 rfl rfl rfl rfl (Nat.le_of_ble_eq_true rfl) rfl d_Ln_clear_2 ?_
  exact v_vret hQ C rfl d_Ln_clear_5 (by omega) (by omega) ⟨rfl, by rw [nI_0]⟩
set_option maxHeartbeats 4000000 in
set_option maxRecDepth 100000 in
theorem ct_Ln_messageAt {D : va_G} {l : Launch} {cI cZ cR cM : ClassId} {M : Mem} {ln sl sz N : Nat} {g : Nat → Option Nat} {a : Nat → Nat} (h1 : M ln = some (ob 0 [.ref sl, .int (nI sz)])) (h2 : M sl = some (aQ cM N g)) (hN : N ≤ 200) (hsz : sz ≤ N) (hg : ∀ j, j < N → g j = some (a j)) (x : Int32) : Ct TT D cls (tyL cI cZ cR cM) l y_Ln_messageAt b_Ln_messageAt 2 (some (.object "BlockTargetSession$Message")) 0 0 0 0 [.ref ln, .int x] M (fun rv M' => M' = M ∧ ((rv = some .null ∧ (x < 0 ∨ nI sz ≤ x)) ∨ ∃ j, j < sz ∧ x = nI j ∧ rv = some (.ref (a j)))) := by
  refine ct_of "BlockTargetSession$Line" rfl (by decide) (Nat.le_of_ble_eq_true rfl) ?_
  intro Z hl hD hnm hQ C
  subst hl
  subst hD
  show V cls 2 (rmOf 0 0 0 0) Z 0 [(0, .ref ln), (1, .int x)] [] M 0 0
  refine v_iload_n C (i := 1) d_Ln_messageAt_0 rfl rfl ?_
  refine v_if_lt C 21 d_Ln_messageAt_1 (by decide) (fun c_1 => ?_) (fun c_1 => ?_)
  · refine v_null C d_Ln_messageAt_21 ?_
    exact v_aret hQ C rfl (Or.inl rfl) d_Ln_messageAt_22 (by omega) (by omega) ⟨rfl, Or.inl ⟨rfl, Or.inl c_1⟩⟩
  · refine v_iload_n C (i := 1) d_Ln_messageAt_4 rfl rfl ?_
    refine v_aload_n C (i := 0) d_Ln_messageAt_5 rfl rfl ?_
    refine v_get C (v := .int (nI sz)) in_Ln h1 cl_Ln 1 (by decide) w_58 rfl rfl d_Ln_messageAt_6 ?_
    refine v_icmp_ge C 21 d_Ln_messageAt_9 (by decide) (fun c_9 => ?_) (fun c_9 => ?_)
    · refine v_null C d_Ln_messageAt_21 ?_
      exact v_aret hQ C rfl (Or.inl rfl) d_Ln_messageAt_22 (by omega) (by omega) ⟨rfl, Or.inl ⟨rfl, Or.inr c_9⟩⟩
    · obtain ⟨j, hj, rfl⟩ : ∃ j : Nat, j < sz ∧ x = nI j := by
        rcases pk_ix x (n := sz) (by omega) with h | h | h
        · exact absurd h c_1
        · exact absurd h c_9
        · exact h
      refine v_aload_n C (i := 0) d_Ln_messageAt_12 rfl rfl ?_
      refine v_get C (v := .ref sl) in_Ln h1 cl_Ln 0 (by decide) w_57 rfl rfl d_Ln_messageAt_13 ?_
      refine v_iload_n C (i := 1) d_Ln_messageAt_16 rfl rfl ?_
      refine v_aldq C (N := N) (f := g) 3 h2 rfl (pk_in j N (by omega)) (v := .ref (a j)) (by rw [pk_cl j, hg j (by omega)]; rfl) d_Ln_messageAt_17 ?_
      refine v_goto C 22 d_Ln_messageAt_18 (by decide) ?_
      exact v_aret hQ C rfl (Or.inr ⟨_, rfl⟩) d_Ln_messageAt_22 (by omega) (by omega) ⟨rfl, Or.inr ⟨j, hj, rfl, rfl⟩⟩
set_option maxHeartbeats 4000000 in
set_option maxRecDepth 100000 in
theorem ct_Ln_putNewest {D : va_G} {l : Launch} {cI cZ cR cM : ClassId} {M : Mem} {ln sl sz N : Nat} {g : Nat → Option Nat} {a : Nat → Nat} (h1 : M ln = some (ob 0 [.ref sl, .int (nI sz)])) (h2 : M sl = some (aQ cM N g)) (hN : N ≤ 200) (hsz : sz ≤ N) (hg : ∀ j, j < N → g j = some (a j)) : Ct TT D cls (tyL cI cZ cR cM) l y_Ln_putNewest b_Ln_putNewest 1 (some (.object "BlockTargetSession$Message")) 0 0 0 0 [.ref ln] M (fun rv M' => (N ≤ sz ∧ rv = some .null ∧ M' = M) ∨ (sz < N ∧ rv = some (.ref (a sz)) ∧ M' = mset M ln (ob 0 [.ref sl, .int (nI (sz + 1))]))) := by
  refine ct_of "BlockTargetSession$Line" rfl (by decide) (Nat.le_of_ble_eq_true rfl) ?_
  intro Z hl hD hnm hQ C
  subst hl
  subst hD
  show V cls 1 (rmOf 0 0 0 0) Z 0 [(0, .ref ln)] [] M 0 0
  refine v_aload_n C (i := 0) d_Ln_putNewest_0 rfl rfl ?_
  refine v_get C (v := .int (nI sz)) in_Ln h1 cl_Ln 1 (by decide) w_58 rfl rfl d_Ln_putNewest_1 ?_
  refine v_aload_n C (i := 0) d_Ln_putNewest_4 rfl rfl ?_
  refine v_get C (v := .ref sl) in_Ln h1 cl_Ln 0 (by decide) w_57 rfl rfl d_Ln_putNewest_5 ?_
  refine v_alen C (x := (N, .inr (.inr (.inr (.inr g))))) (v := nI N) 3 h2 rfl rfl d_Ln_putNewest_8 ?_
  refine v_icmp_lt C 14 d_Ln_putNewest_9 (by decide) (fun c_9 => ?_) (fun c_9 => ?_)
  · have hlt : sz < N := (nI_ltI (by omega) (by omega)).mp c_9
    refine v_aload_n C (i := 0) d_Ln_putNewest_14 rfl rfl ?_
    refine v_dup C d_Ln_putNewest_15 rfl ?_
    refine v_get C (v := .int (nI sz)) in_Ln h1 cl_Ln 1 (by decide) w_58 rfl rfl d_Ln_putNewest_16 ?_
    refine v_iconst C (v := 1) d_Ln_putNewest_19 (by decide) ?_
    refine v_iadd C d_Ln_putNewest_20 ?_
    refine V.eqst (st' := [.int (nI (sz + 1)), .ref ln]) (by rw [nI_1]) ?_
    refine v_put C in_Ln t_Ln to_Ln nm_Ln h1 cl_Ln 1 (by decide) (fs' := [.ref sl, .int (nI (sz + 1))]) w_58 rfl rfl rfl rfl (Nat.le_of_ble_eq_true rfl) rfl d_Ln_putNewest_21 ?_
    refine v_aload_n C (i := 0) d_Ln_putNewest_24 rfl rfl ?_
    refine v_get C (v := .ref sl) in_Ln (mset_self _ _ _) cl_Ln 0 (by decide) w_57 rfl rfl d_Ln_putNewest_25 ?_
    refine v_aload_n C (i := 0) d_Ln_putNewest_28 rfl rfl ?_
    refine v_get C (v := .int (nI (sz + 1))) in_Ln (mset_self _ _ _) cl_Ln 1 (by decide) w_58 rfl rfl d_Ln_putNewest_29 ?_
    refine v_iconst C (v := 1) d_Ln_putNewest_32 (by decide) ?_
    refine v_isub C d_Ln_putNewest_33 ?_
    refine V.eqst (st' := [.int (nI sz), .ref sl]) (by rw [nI_pred]) ?_
    refine v_aldq C (N := N) (f := g) 3 ((mset_ne (mne h2 h1 rfl)).trans h2) rfl (pk_in sz N (by omega)) (v := .ref (a sz)) (by rw [pk_cl sz, hg sz (by omega)]; rfl) d_Ln_putNewest_34 ?_
    exact v_aret hQ C rfl (Or.inr ⟨_, rfl⟩) d_Ln_putNewest_35 (by omega) (by omega) (Or.inr ⟨hlt, rfl, rfl⟩)
  · have hge : N ≤ sz := Nat.le_of_not_lt (fun h => c_9 ((nI_ltI (by omega) (by omega)).mpr h))
    refine v_null C d_Ln_putNewest_12 ?_
    exact v_aret hQ C rfl (Or.inl rfl) d_Ln_putNewest_13 (by omega) (by omega) (Or.inl ⟨hge, rfl, rfl⟩)
set_option maxHeartbeats 4000000 in
set_option maxRecDepth 100000 in
theorem ct_Ln_takeOldest {D : va_G} {l : Launch} {cI cZ cR cM : ClassId} {M : Mem} {ln sl sz N : Nat} {g : Nat → Option Nat} {a : Nat → Nat} (h1 : M ln = some (ob 0 [.ref sl, .int (nI sz)])) (h2 : M sl = some (aQ cM N g)) (hN : N ≤ 200) (hsz : sz ≤ N) (hg : ∀ j, j < N → g j = some (a j)) (hms : ∀ j, j < N → ∃ fs, M (a j) = some (ob 1 fs)) : Ct TT D cls (tyL cI cZ cR cM) l y_Ln_takeOldest b_Ln_takeOldest 3 (some (.object "BlockTargetSession$Message")) 0 0 0 0 [.ref ln] M (fun rv M' => (sz = 0 ∧ rv = some .null ∧ M' = M) ∨ ∃ m g', sz = m + 1 ∧ rv = some (.ref (a 0)) ∧ M' = mset (mset M ln (ob 0 [.ref sl, .int (nI m)])) sl (aQ cM N g') ∧ (∀ j, j < m → g' j = g (j + 1)) ∧ g' m = g 0 ∧ ∀ j, m < j → g' j = g j) := by
  refine ct_of "BlockTargetSession$Line" rfl (by decide) (Nat.le_of_ble_eq_true rfl) ?_
  intro Z hl hD hnm hQ C
  subst hl
  subst hD
  show V cls 3 (rmOf 0 0 0 0) Z 0 [(0, .ref ln)] [] M 0 0
  refine v_aload_n C (i := 0) d_Ln_takeOldest_0 rfl rfl ?_
  refine v_get C (v := .int (nI sz)) in_Ln h1 cl_Ln 1 (by decide) w_58 rfl rfl d_Ln_takeOldest_1 ?_
  refine v_if_ne C 9 d_Ln_takeOldest_4 (by decide) (fun c_4 => ?_) (fun c_4 => ?_)
  · obtain ⟨m, rfl⟩ : ∃ m, sz = m + 1 := ⟨sz - 1, by have : sz ≠ 0 := fun h => c_4 (by rw [h]; exact nI_0); omega⟩
    refine v_aload_n C (i := 0) d_Ln_takeOldest_9 rfl rfl ?_
    refine v_get C (v := .ref sl) in_Ln h1 cl_Ln 0 (by decide) w_57 rfl rfl d_Ln_takeOldest_10 ?_
    refine v_iconst C (v := 0) d_Ln_takeOldest_13 (by decide) ?_
    refine v_aldq C (N := N) (f := g) 3 h2 rfl (pk_in 0 N (by omega) nI_0.symm) (v := .ref (a 0)) (by rw [pk_cl 0 nI_0.symm, hg 0 (by omega)]; rfl) d_Ln_takeOldest_14 ?_
    refine v_astore_n C (i := 1) (lv' := [(1, .ref (a 0)), (0, .ref ln)]) d_Ln_takeOldest_15 rfl (by decide) rfl ?_
    refine v_aload_n C (i := 0) d_Ln_takeOldest_16 rfl rfl ?_
    refine v_dup C d_Ln_takeOldest_17 rfl ?_
    refine v_get C (v := .int (nI (m + 1))) in_Ln h1 cl_Ln 1 (by decide) w_58 rfl rfl d_Ln_takeOldest_18 ?_
    refine v_iconst C (v := 1) d_Ln_takeOldest_21 (by decide) ?_
    refine v_isub C d_Ln_takeOldest_22 ?_
    refine V.eqst (st' := [.int (nI m), .ref ln]) (by rw [nI_pred]) ?_
    refine v_put C in_Ln t_Ln to_Ln nm_Ln h1 cl_Ln 1 (by decide) (fs' := [.ref sl, .int (nI m)]) w_58 rfl rfl rfl rfl (Nat.le_of_ble_eq_true rfl) rfl d_Ln_takeOldest_23 ?_
    refine v_iconst C (v := 0) d_Ln_takeOldest_26 (by decide) ?_
    refine v_istore_n C (i := 2) (lv' := [(2, .int 0), (1, .ref (a 0)), (0, .ref ln)]) d_Ln_takeOldest_27 rfl (by decide) rfl ?_
    have n1 : sl ≠ ln := mne h2 h1 rfl
    have hsl : (mset M ln (ob 0 [.ref sl, .int (nI m)])) sl = some (aQ cM N g) := (mset_ne n1).trans h2
    have L : ∀ (fu i : Nat) (g1 : Nat → Option Nat), m - i < fu → i ≤ m → (∀ j, j < i → g1 j = g (j + 1)) → (∀ j, i ≤ j → g1 j = g j) → V cls 3 (rmOf 0 0 0 0) Z 28 [(2, .int (nI i)), (1, .ref (a 0)), (0, .ref ln)] [] (mset (mset M ln (ob 0 [.ref sl, .int (nI m)])) sl (aQ cM N g1)) 0 0 := by
      intro fu
      induction fu with
      | zero => intro i g1 hf; omega
      | succ fu ih =>
        intro i g1 hf hi ha hb
        refine v_iload_n C (i := 2) d_Ln_takeOldest_28 rfl rfl ?_
        refine v_aload_n C (i := 0) d_Ln_takeOldest_29 rfl rfl ?_
        refine v_get C (v := .int (nI m)) in_Ln ((mset_ne (Ne.symm n1)).trans (mset_self _ _ _)) cl_Ln 1 (by decide) w_58 rfl rfl d_Ln_takeOldest_30 ?_
        refine v_icmp_ge C 56 d_Ln_takeOldest_33 (by decide) (fun c_33 => ?_) (fun c_33 => ?_)
        · have hi2 : i = m := Nat.le_antisymm hi ((nI_leI (by omega) (by omega)).mp c_33)
          subst hi2
          obtain ⟨fs, hfs⟩ := hms (0) (by omega)
          have hfs2 : (mset (mset M ln (ob 0 [.ref sl, .int (nI i)])) sl (aQ cM N g1)) (a (0)) = some (ob 1 fs) := by rw [mset_ne (mne hfs h2 rfl), mset_ne (mne hfs h1 rfl)]; exact hfs
          refine v_aload_n C (i := 0) d_Ln_takeOldest_56 rfl rfl ?_
          refine v_get C (v := .ref sl) in_Ln ((mset_ne (Ne.symm n1)).trans (mset_self _ _ _)) cl_Ln 0 (by decide) w_57 rfl rfl d_Ln_takeOldest_57 ?_
          refine v_aload_n C (i := 0) d_Ln_takeOldest_60 rfl rfl ?_
          refine v_get C (v := .int (nI i)) in_Ln ((mset_ne (Ne.symm n1)).trans (mset_self _ _ _)) cl_Ln 1 (by decide) w_58 rfl rfl d_Ln_takeOldest_61 ?_
          refine v_aload_n C (i := 1) d_Ln_takeOldest_64 rfl rfl ?_
          refine v_astq C (N := N) (f := g1) 3 1 (mset_self _ _ _) rfl hfs2 cl_Ms (pk_in i N (by omega)) d_Ln_takeOldest_65 ?_
          rw [show Int32.toNatClampNeg (nI i) = i from pk_cl _ (hx := rfl)]
          rw [mset_set]
          refine v_aload_n C (i := 1) d_Ln_takeOldest_66 rfl rfl ?_
          exact v_aret hQ C rfl (Or.inr ⟨_, rfl⟩) d_Ln_takeOldest_67 (by omega) (by omega) (Or.inr ⟨i, _, rfl, rfl, rfl, (fun j hj => by rw [va_up_ne _ _ (by omega)]; exact ha j hj), by rw [va_up_self, hg 0 (by omega)], (fun j hj => by rw [va_up_ne _ _ (by omega)]; exact hb j (by omega))⟩)
        · have hi2 : i < m := Nat.lt_of_not_le (fun h => c_33 ((nI_leI (by omega) (by omega)).mpr h))
          obtain ⟨fs, hfs⟩ := hms (i + 1) (by omega)
          have hfs2 : (mset (mset M ln (ob 0 [.ref sl, .int (nI m)])) sl (aQ cM N g1)) (a (i + 1)) = some (ob 1 fs) := by rw [mset_ne (mne hfs h2 rfl), mset_ne (mne hfs h1 rfl)]; exact hfs
          refine v_aload_n C (i := 0) d_Ln_takeOldest_36 rfl rfl ?_
          refine v_get C (v := .ref sl) in_Ln ((mset_ne (Ne.symm n1)).trans (mset_self _ _ _)) cl_Ln 0 (by decide) w_57 rfl rfl d_Ln_takeOldest_37 ?_
          refine v_iload_n C (i := 2) d_Ln_takeOldest_40 rfl rfl ?_
          refine v_aload_n C (i := 0) d_Ln_takeOldest_41 rfl rfl ?_
          refine v_get C (v := .ref sl) in_Ln ((mset_ne (Ne.symm n1)).trans (mset_self _ _ _)) cl_Ln 0 (by decide) w_57 rfl rfl d_Ln_takeOldest_42 ?_
          refine v_iload_n C (i := 2) d_Ln_takeOldest_45 rfl rfl ?_
          refine v_iconst C (v := 1) d_Ln_takeOldest_46 (by decide) ?_
          refine v_iadd C d_Ln_takeOldest_47 ?_
          refine V.eqst (st' := [.int (nI (i + 1)), .ref sl, .int (nI i), .ref sl]) (by rw [nI_1]) ?_
          refine v_aldq C (N := N) (f := g1) 3 (mset_self _ _ _) rfl (pk_in (i + 1) N (by omega)) (v := .ref (a (i + 1))) (by rw [pk_cl (i + 1), hb (i + 1) (by omega), hg (i + 1) (by omega)]; rfl) d_Ln_takeOldest_48 ?_
          refine v_astq C (N := N) (f := g1) 3 1 (mset_self _ _ _) rfl hfs2 cl_Ms (pk_in i N (by omega)) d_Ln_takeOldest_49 ?_
          rw [show Int32.toNatClampNeg (nI i) = i from pk_cl _ (hx := rfl)]
          rw [mset_set]
          refine v_iinc C (i := 2) (j := 0) (v := nI (i + 1)) (lv' := [(2, .int (nI (i + 1))), (1, .ref (a 0)), (0, .ref ln)]) d_Ln_takeOldest_50 rfl (nI_1 i) (by decide) rfl ?_
          refine v_goto C 28 d_Ln_takeOldest_53 (by decide) ?_
          exact ih (i + 1) _ (by omega) (by omega) (fun j hj => by
            by_cases c : j = i
            · subst c; rw [va_up_self, hg (j + 1) (by omega)]
            · rw [va_up_ne _ _ c]; exact ha j (by omega)) (fun j hj => by rw [va_up_ne _ _ (by omega)]; exact hb j (by omega))
    refine V.eqM (mset_id hsl).symm ?_
    exact L (m + 1) 0 g (by omega) (by omega) (fun j hj => absurd hj (Nat.not_lt_zero j)) (fun j _ => rfl)
  · have hz0 : sz = 0 := Classical.byContradiction fun h => nI_ne0 (Nat.pos_of_ne_zero h) (by omega) c_4
    refine v_null C d_Ln_takeOldest_7 ?_
    exact v_aret hQ C rfl (Or.inl rfl) d_Ln_takeOldest_8 (by omega) (by omega) (Or.inl ⟨hz0, rfl, rfl⟩)
set_option maxHeartbeats 4000000 in
set_option maxRecDepth 100000 in
theorem ct_Ms_fill {D : va_G} {l : Launch} {cI cZ cR cM : ClassId} {M : Mem} {a : Nat} {u0 u1 u2 u3 u4 u5 : Int32} (h1 : M a = some (ob 1 [.int u0, .int u1, .int u2, .int u3, .int u4, .int u5])) (v0 v1 v2 v3 v4 : Int32) : Ct TT D cls (tyL cI cZ cR cM) l y_Ms_fill b_Ms_fill 6 none 0 0 0 0 [.ref a, .int v0, .int v1, .int v2, .int v3, .int v4] M (fun rv M' => rv = none ∧ M' = mset M a (ob 1 [.int v0, .int v1, .int v2, .int v3, .int v4, .int 0])) := by
  refine ct_of "BlockTargetSession$Message" rfl (by decide) (Nat.le_of_ble_eq_true rfl) ?_
  intro Z hl hD hnm hQ C
  subst hl
  subst hD
  show V cls 6 (rmOf 0 0 0 0) Z 0 [(0, .ref a), (1, .int v0), (2, .int v1), (3, .int v2), (4, .int v3), (5, .int v4)] [] M 0 0
  refine v_aload_n C (i := 0) d_Ms_fill_0 rfl rfl ?_
  refine v_iload_n C (i := 1) d_Ms_fill_1 rfl rfl ?_
  refine v_put C in_Ms t_Ms to_Ms nm_Ms h1 cl_Ms 0 (by decide) (fs' := [.int v0, .int u1, .int u2, .int u3, .int u4, .int u5]) w_32 rfl rfl rfl rfl (Nat.le_of_ble_eq_true rfl) rfl d_Ms_fill_2 ?_
  refine v_aload_n C (i := 0) d_Ms_fill_5 rfl rfl ?_
  refine v_iload_n C (i := 2) d_Ms_fill_6 rfl rfl ?_
  refine v_put C in_Ms t_Ms to_Ms nm_Ms (mset_self _ _ _) cl_Ms 1 (by decide) (fs' := [.int v0, .int v1, .int u2, .int u3, .int u4, .int u5]) w_34 rfl rfl rfl rfl (Nat.le_of_ble_eq_true rfl) rfl d_Ms_fill_7 ?_
  rw [mset_set]
  refine v_aload_n C (i := 0) d_Ms_fill_10 rfl rfl ?_
  refine v_iload_n C (i := 3) d_Ms_fill_11 rfl rfl ?_
  refine v_put C in_Ms t_Ms to_Ms nm_Ms (mset_self _ _ _) cl_Ms 2 (by decide) (fs' := [.int v0, .int v1, .int v2, .int u3, .int u4, .int u5]) w_36 rfl rfl rfl rfl (Nat.le_of_ble_eq_true rfl) rfl d_Ms_fill_12 ?_
  rw [mset_set]
  refine v_aload_n C (i := 0) d_Ms_fill_15 rfl rfl ?_
  refine v_iload C (i := 4) d_Ms_fill_16 rfl ?_
  refine v_put C in_Ms t_Ms to_Ms nm_Ms (mset_self _ _ _) cl_Ms 3 (by decide) (fs' := [.int v0, .int v1, .int v2, .int v3, .int u4, .int u5]) w_38 rfl rfl rfl rfl (Nat.le_of_ble_eq_true rfl) rfl d_Ms_fill_18 ?_
  rw [mset_set]
  refine v_aload_n C (i := 0) d_Ms_fill_21 rfl rfl ?_
  refine v_iload C (i := 5) d_Ms_fill_22 rfl ?_
  refine v_put C in_Ms t_Ms to_Ms nm_Ms (mset_self _ _ _) cl_Ms 4 (by decide) (fs' := [.int v0, .int v1, .int v2, .int v3, .int v4, .int u5]) w_40 rfl rfl rfl rfl (Nat.le_of_ble_eq_true rfl) rfl d_Ms_fill_24 ?_
  rw [mset_set]
  refine v_aload_n C (i := 0) d_Ms_fill_27 rfl rfl ?_
  refine v_iconst C (v := 0) d_Ms_fill_28 (by decide) ?_
  refine v_put C in_Ms t_Ms to_Ms nm_Ms (mset_self _ _ _) cl_Ms 5 (by decide) (fs' := [.int v0, .int v1, .int v2, .int v3, .int v4, .int 0]) w_42 rfl rfl rfl rfl (Nat.le_of_ble_eq_true rfl) rfl d_Ms_fill_29 ?_
  rw [mset_set]
  exact v_vret hQ C rfl d_Ms_fill_32 (by omega) (by omega) ⟨rfl, rfl⟩
set_option maxHeartbeats 4000000 in
set_option maxRecDepth 100000 in
theorem ct_Ms_init {D : va_G} {l : Launch} {cI cZ cR cM : ClassId} {M : Mem} {a : Nat} {u0 u1 u2 u3 u4 u5 : Int32} (h1 : M a = some (ob 1 [.int u0, .int u1, .int u2, .int u3, .int u4, .int u5])) : Ct TT D cls (tyL cI cZ cR cM) l y_Ms_init b_Ms_init 1 none 1 24 0 0 [.ref a] M (fun rv M' => rv = none ∧ M' = mset M a (ob 1 [.int 0, .int 0, .int 0, .int 0, .int 0, .int 0])) := by
  refine ct_of "BlockTargetSession$Message" rfl (by decide) (Nat.le_of_ble_eq_true rfl) ?_
  intro Z hl hD hnm hQ C
  subst hl
  subst hD
  show V cls 1 (rmOf 1 24 0 0) Z 0 [(0, .ref a)] [] M 0 0
  refine v_aload_n C (i := 0) d_Ms_init_0 rfl rfl ?_
  refine v_objInit C w_31 w_15 w_16 (Nat.le_of_ble_eq_true rfl) (Nat.le_of_ble_eq_true rfl) d_Ms_init_1 ?_
  refine v_aload_n C (i := 0) d_Ms_init_4 rfl rfl ?_
  refine v_iconst C (v := 0) d_Ms_init_5 (by decide) ?_
  refine v_put C in_Ms t_Ms to_Ms nm_Ms h1 cl_Ms 0 (by decide) (fs' := [.int 0, .int u1, .int u2, .int u3, .int u4, .int u5]) w_32 rfl rfl rfl rfl (Nat.le_of_ble_eq_true rfl) rfl d_Ms_init_6 ?_
  refine v_aload_n C (i := 0) d_Ms_init_9 rfl rfl ?_
  refine v_iconst C (v := 0) d_Ms_init_10 (by decide) ?_
  refine v_put C in_Ms t_Ms to_Ms nm_Ms (mset_self _ _ _) cl_Ms 1 (by decide) (fs' := [.int 0, .int 0, .int u2, .int u3, .int u4, .int u5]) w_34 rfl rfl rfl rfl (Nat.le_of_ble_eq_true rfl) rfl d_Ms_init_11 ?_
  rw [mset_set]
  refine v_aload_n C (i := 0) d_Ms_init_14 rfl rfl ?_
  refine v_iconst C (v := 0) d_Ms_init_15 (by decide) ?_
  refine v_put C in_Ms t_Ms to_Ms nm_Ms (mset_self _ _ _) cl_Ms 2 (by decide) (fs' := [.int 0, .int 0, .int 0, .int u3, .int u4, .int u5]) w_36 rfl rfl rfl rfl (Nat.le_of_ble_eq_true rfl) rfl d_Ms_init_16 ?_
  rw [mset_set]
  refine v_aload_n C (i := 0) d_Ms_init_19 rfl rfl ?_
  refine v_iconst C (v := 0) d_Ms_init_20 (by decide) ?_
  refine v_put C in_Ms t_Ms to_Ms nm_Ms (mset_self _ _ _) cl_Ms 3 (by decide) (fs' := [.int 0, .int 0, .int 0, .int 0, .int u4, .int u5]) w_38 rfl rfl rfl rfl (Nat.le_of_ble_eq_true rfl) rfl d_Ms_init_21 ?_
  rw [mset_set]
  refine v_aload_n C (i := 0) d_Ms_init_24 rfl rfl ?_
  refine v_iconst C (v := 0) d_Ms_init_25 (by decide) ?_
  refine v_put C in_Ms t_Ms to_Ms nm_Ms (mset_self _ _ _) cl_Ms 4 (by decide) (fs' := [.int 0, .int 0, .int 0, .int 0, .int 0, .int u5]) w_40 rfl rfl rfl rfl (Nat.le_of_ble_eq_true rfl) rfl d_Ms_init_26 ?_
  rw [mset_set]
  refine v_aload_n C (i := 0) d_Ms_init_29 rfl rfl ?_
  refine v_iconst C (v := 0) d_Ms_init_30 (by decide) ?_
  refine v_put C in_Ms t_Ms to_Ms nm_Ms (mset_self _ _ _) cl_Ms 5 (by decide) (fs' := [.int 0, .int 0, .int 0, .int 0, .int 0, .int 0]) w_42 rfl rfl rfl rfl (Nat.le_of_ble_eq_true rfl) rfl d_Ms_init_31 ?_
  rw [mset_set]
  exact v_vret hQ C rfl d_Ms_init_34 (by omega) (by omega) ⟨rfl, rfl⟩
set_option maxHeartbeats 4000000 in
set_option maxRecDepth 100000 in
theorem ct_Ar_fill {D : va_G} {l : Launch} {cI cZ cR cM : ClassId} {M : Mem} {a N : Nat} {f : Nat → Int32} (h1 : M a = some (aI cI N f)) (hN : N ≤ 200) (v : Int32) : Ct TT D cls (tyL cI cZ cR cM) l y_Ar_fill b_Ar_fill 4 none 0 0 0 0 [.ref a, .int v] M (fun rv M' => rv = none ∧ ∃ f', M' = mset M a (aI cI N f') ∧ ∀ j, j < N → f' j = v) := by
  refine ct_of "java/util/Arrays" rfl (by decide) (Nat.le_of_ble_eq_true rfl) ?_
  intro Z hl hD hnm hQ C
  subst hl
  subst hD
  show V cls 4 (rmOf 0 0 0 0) Z 0 [(0, .ref a), (1, .int v)] [] M 0 0
  refine v_iconst C (v := 0) d_Ar_fill_0 (by decide) ?_
  refine v_istore_n C (i := 2) (lv' := [(2, .int 0), (0, .ref a), (1, .int v)]) d_Ar_fill_1 rfl (by decide) rfl ?_
  refine v_aload_n C (i := 0) d_Ar_fill_2 rfl rfl ?_
  refine v_alen C (x := (N, .inl f)) (v := nI N) 0 h1 rfl rfl d_Ar_fill_3 ?_
  refine v_istore_n C (i := 3) (lv' := [(3, .int (nI N)), (2, .int 0), (0, .ref a), (1, .int v)]) d_Ar_fill_4 rfl (by decide) rfl ?_
  have L : ∀ (fu i : Nat) (f1 : Nat → Int32), N - i < fu → i ≤ N → (∀ j, j < i → f1 j = v) → V cls 4 (rmOf 0 0 0 0) Z 5 [(3, .int (nI N)), (2, .int (nI i)), (0, .ref a), (1, .int v)] [] (mset M a (aI cI N f1)) 0 0 := by
    intro fu
    induction fu with
    | zero => intro i f1 hf; omega
    | succ fu ih =>
      intro i f1 hf hi ha
      refine v_iload_n C (i := 2) d_Ar_fill_5 rfl rfl ?_
      refine v_iload_n C (i := 3) d_Ar_fill_6 rfl rfl ?_
      refine v_icmp_ge C 20 d_Ar_fill_7 (by decide) (fun c_7 => ?_) (fun c_7 => ?_)
      · have hi2 : N ≤ i := (nI_leI (by omega) (by omega)).mp c_7
        exact v_vret hQ C rfl d_Ar_fill_20 (by omega) (by omega) ⟨rfl, _, rfl, fun j hj => ha j (by omega)⟩
      · have hi2 : i < N := Nat.lt_of_not_le (fun h => c_7 ((nI_leI (by omega) (by omega)).mpr h))
        refine v_aload_n C (i := 0) d_Ar_fill_10 rfl rfl ?_
        refine v_iload_n C (i := 2) d_Ar_fill_11 rfl rfl ?_
        refine v_iload_n C (i := 1) d_Ar_fill_12 rfl rfl ?_
        refine v_iast C (N := N) (f := f1) 0 (mset_self _ _ _) rfl (pk_in i N (by omega)) d_Ar_fill_13 ?_
        rw [show Int32.toNatClampNeg (nI i) = i from pk_cl _ (hx := rfl)]
        rw [mset_set]
        refine v_iinc C (i := 2) (j := 1) (v := nI (i + 1)) (lv' := [(2, .int (nI (i + 1))), (3, .int (nI N)), (0, .ref a), (1, .int v)]) d_Ar_fill_14 rfl (nI_1 i) (by decide) rfl ?_
        refine v_goto C 5 d_Ar_fill_17 (by decide) ?_
        refine V.pick (lv' := [(3, .int (nI N)), (2, .int (nI (i + 1))), (0, .ref a), (1, .int v)]) [1, 0, 2, 3] rfl ?_
        exact ih (i + 1) _ (by omega) (by omega) (fun j hj => by
          by_cases c : j = i
          · subst c; rw [pk_us]
          · rw [pk_un c]; exact ha j (by omega))
  refine V.pick (lv' := [(3, .int (nI N)), (2, .int 0), (0, .ref a), (1, .int v)]) [0, 1, 2, 3] rfl ?_
  refine V.eqM (mset_id h1).symm ?_
  exact L (N + 1) 0 f (by omega) (by omega) (fun j hj => absurd hj (Nat.not_lt_zero j))
set_option maxHeartbeats 4000000 in
set_option maxRecDepth 100000 in
theorem ct_Rq_keepResult {D : va_G} {l : Launch} {cI cZ cR cM : ClassId} {M : Mem} {q rr N : Nat} {f : Nat → Int32} {k0 k1 k2 k3 k5 : Int32} (h1 : M q = some (ob 2 [.int k0, .int k1, .int k2, .int k3, .ref rr, .int k5])) (h2 : M rr = some (aI cI N f)) (hN : N ≤ 200) (j : Nat) (hj : j < N) (v : Int32) : Ct TT D cls (tyL cI cZ cR cM) l y_Rq_keepResult b_Rq_keepResult 3 none 0 0 0 0 [.ref q, .int (nI j), .int v] M (fun rv M' => rv = none ∧ M' = mset M rr (aI cI N (upd f j v))) := by
  refine ct_of "BlockTargetSession$Request" rfl (by decide) (Nat.le_of_ble_eq_true rfl) ?_
  intro Z hl hD hnm hQ C
  subst hl
  subst hD
  show V cls 3 (rmOf 0 0 0 0) Z 0 [(0, .ref q), (1, .int (nI j)), (2, .int v)] [] M 0 0
  refine v_iload_n C (i := 1) d_Rq_keepResult_0 rfl rfl ?_
  refine v_if_lt C 20 d_Rq_keepResult_1 (by decide) (fun c_1 => absurd c_1 (nI_pos (by omega))) (fun c_1 => ?_)
  refine v_iload_n C (i := 1) d_Rq_keepResult_4 rfl rfl ?_
  refine v_aload_n C (i := 0) d_Rq_keepResult_5 rfl rfl ?_
  refine v_get C (v := .ref rr) in_Rq h1 cl_Rq 4 (by decide) w_164 rfl rfl d_Rq_keepResult_6 ?_
  refine v_alen C (x := (N, .inl f)) (v := nI N) 0 h2 rfl rfl d_Rq_keepResult_9 ?_
  refine v_icmp_ge C 20 d_Rq_keepResult_10 (by decide) (fun c_10 => absurd c_10 (nI_ge hj (by omega))) (fun c_10 => ?_)
  refine v_aload_n C (i := 0) d_Rq_keepResult_13 rfl rfl ?_
  refine v_get C (v := .ref rr) in_Rq h1 cl_Rq 4 (by decide) w_164 rfl rfl d_Rq_keepResult_14 ?_
  refine v_iload_n C (i := 1) d_Rq_keepResult_17 rfl rfl ?_
  refine v_iload_n C (i := 2) d_Rq_keepResult_18 rfl rfl ?_
  refine v_iast C (N := N) (f := f) 0 h2 rfl (pk_in j N hj) d_Rq_keepResult_19 ?_
  rw [show Int32.toNatClampNeg (nI j) = j from pk_cl _ (hx := rfl)]
  exact v_vret hQ C rfl d_Rq_keepResult_20 (by omega) (by omega) ⟨rfl, rfl⟩
set_option maxHeartbeats 4000000 in
set_option maxRecDepth 100000 in
theorem ct_Rq_reopen {D : va_G} {l : Launch} {cI cZ cR cM : ClassId} {M : Mem} {q rr N : Nat} {f : Nat → Int32} {k0 k1 k2 k3 k5 : Int32} (h1 : M q = some (ob 2 [.int k0, .int k1, .int k2, .int k3, .ref rr, .int k5])) (h2 : M rr = some (aI cI N f)) (hN : N ≤ 200) : Ct TT D cls (tyL cI cZ cR cM) l y_Rq_reopen b_Rq_reopen 1 none 1 23 0 0 [.ref q] M (fun rv M' => rv = none ∧ ∃ f', M' = mset (mset M q (ob 2 [.int k0, .int k1, .int k2, .int k3, .ref rr, .int 0])) rr (aI cI N f') ∧ ∀ j, j < N → f' j = 0) := by
  refine ct_of "BlockTargetSession$Request" rfl (by decide) (Nat.le_of_ble_eq_true rfl) ?_
  intro Z hl hD hnm hQ C
  subst hl
  subst hD
  show V cls 1 (rmOf 1 23 0 0) Z 0 [(0, .ref q)] [] M 0 0
  refine v_aload_n C (i := 0) d_Rq_reopen_0 rfl rfl ?_
  refine v_iconst C (v := 0) d_Rq_reopen_1 (by decide) ?_
  refine v_put C in_Rq t_Rq to_Rq nm_Rq h1 cl_Rq 5 (by decide) (fs' := [.int k0, .int k1, .int k2, .int k3, .ref rr, .int 0]) w_166 rfl rfl rfl rfl (Nat.le_of_ble_eq_true rfl) rfl d_Rq_reopen_2 ?_
  refine v_aload_n C (i := 0) d_Rq_reopen_5 rfl rfl ?_
  refine v_get C (v := .ref rr) in_Rq (mset_self _ _ _) cl_Rq 4 (by decide) w_164 rfl rfl d_Rq_reopen_6 ?_
  refine v_iconst C (v := 0) d_Rq_reopen_9 (by decide) ?_
  refine v_callS C (As := [.ref rr, .int 0]) (rest := []) w_234 (ct_Ar_fill ((mset_ne (mne h2 h1 rfl)).trans h2) hN 0) (Nat.le_of_ble_eq_true rfl) (Nat.le_of_ble_eq_true rfl) w_235 w_8 hy_Ar_fill w_233 rfl (Nat.le_of_ble_eq_true rfl) ⟨by decide, by decide⟩ d_Rq_reopen_10 (fun rv M hp => ?_)
  obtain ⟨rfl, f', rfl, hf⟩ := hp
  refine V.eqst (st' := []) rfl (V.cs (k' := 0) (n' := 0) rfl rfl ?_)
  exact v_vret hQ C rfl d_Rq_reopen_13 (by omega) (by omega) ⟨rfl, f', rfl, hf⟩
def clampI (x lo hi : Int32) : Int32 := if lo < (if x < hi then x else hi) then (if x < hi then x else hi) else lo
set_option maxHeartbeats 4000000 in
set_option maxRecDepth 100000 in
theorem ct_Bs_clamp {D : va_G} {l : Launch} {cI cZ cR cM : ClassId} {M : Mem} (x lo hi : Int32) : Ct TT D cls (tyL cI cZ cR cM) l y_Bs_clamp b_Bs_clamp 3 (some .int) 1 24 0 0 [.int x, .int lo, .int hi] M (fun rv M' => rv = some (.int (clampI x lo hi)) ∧ M' = M) := by
  refine ct_of "BlockTargetSession" rfl (by decide) (Nat.le_of_ble_eq_true rfl) ?_
  intro Z hl hD hnm hQ C
  subst hl
  subst hD
  show V cls 3 (rmOf 1 24 0 0) Z 0 [(0, .int x), (1, .int lo), (2, .int hi)] [] M 0 0
  refine v_iload_n C (i := 1) d_Bs_clamp_0 rfl rfl ?_
  refine v_iload_n C (i := 2) d_Bs_clamp_1 rfl rfl ?_
  refine v_iload_n C (i := 0) d_Bs_clamp_2 rfl rfl ?_
  refine v_mmin C w_68 w_69 w_4 w_70 (by decide) (Nat.le_of_ble_eq_true rfl) (by decide) (by decide) d_Bs_clamp_3 ?_
  refine v_mmax C w_71 w_72 w_4 w_73 (by decide) (Nat.le_of_ble_eq_true rfl) (by decide) (by decide) d_Bs_clamp_6 ?_
  exact v_iret hQ C rfl d_Bs_clamp_9 (by omega) (by omega) ⟨rfl, rfl⟩
def isB (x : Int32) : Prop := ¬ x < 0 ∧ ¬ 16 ≤ x
set_option maxHeartbeats 4000000 in
set_option maxRecDepth 100000 in
theorem ct_Bs_isBlock {D : va_G} {l : Launch} {cI cZ cR cM : ClassId} {M : Mem} (x : Int32) : Ct TT D cls (tyL cI cZ cR cM) l y_Bs_isBlock b_Bs_isBlock 1 (some .boolean) 0 0 0 0 [.int x] M (fun rv M' => (isB x ∧ rv = some (.int 1) ∧ M' = M) ∨ (¬ isB x ∧ rv = some (.int 0) ∧ M' = M)) := by
  refine ct_of "BlockTargetSession" rfl (by decide) (Nat.le_of_ble_eq_true rfl) ?_
  intro Z hl hD hnm hQ C
  subst hl
  subst hD
  show V cls 1 (rmOf 0 0 0 0) Z 0 [(0, .int x)] [] M 0 0
  refine v_iload_n C (i := 0) d_Bs_isBlock_0 rfl rfl ?_
  refine v_if_lt C 14 d_Bs_isBlock_1 (by decide) (fun c_1 => ?_) (fun c_1 => ?_)
  · refine v_iconst C (v := 0) d_Bs_isBlock_14 (by decide) ?_
    exact v_zret hQ C rfl rfl d_Bs_isBlock_15 (by omega) (by omega) (Or.inr ⟨fun h => h.1 c_1, rfl, rfl⟩)
  · refine v_iload_n C (i := 0) d_Bs_isBlock_4 rfl rfl ?_
    refine v_bipush C (v := 16) d_Bs_isBlock_5 (by decide) ?_
    refine v_icmp_ge C 14 d_Bs_isBlock_7 (by decide) (fun c_7 => ?_) (fun c_7 => ?_)
    · refine v_iconst C (v := 0) d_Bs_isBlock_14 (by decide) ?_
      exact v_zret hQ C rfl rfl d_Bs_isBlock_15 (by omega) (by omega) (Or.inr ⟨fun h => h.2 c_7, rfl, rfl⟩)
    · refine v_iconst C (v := 1) d_Bs_isBlock_10 (by decide) ?_
      refine v_goto C 15 d_Bs_isBlock_11 (by decide) ?_
      exact v_zret hQ C rfl rfl d_Bs_isBlock_15 (by omega) (by omega) (Or.inl ⟨⟨c_1, c_7⟩, rfl, rfl⟩)
def isS (x n : Int32) : Prop := isB x ∧ ¬ n < 1 ∧ ¬ 3 < n ∧ ¬ 16 < x + n
set_option maxHeartbeats 4000000 in
set_option maxRecDepth 100000 in
theorem ct_Bs_isStretch {D : va_G} {l : Launch} {cI cZ cR cM : ClassId} {M : Mem} (x n : Int32) : Ct TT D cls (tyL cI cZ cR cM) l y_Bs_isStretch b_Bs_isStretch 2 (some .boolean) 1 20 0 0 [.int x, .int n] M (fun rv M' => (isS x n ∧ rv = some (.int 1) ∧ M' = M) ∨ (¬ isS x n ∧ rv = some (.int 0) ∧ M' = M)) := by
  refine ct_of "BlockTargetSession" rfl (by decide) (Nat.le_of_ble_eq_true rfl) ?_
  intro Z hl hD hnm hQ C
  subst hl
  subst hD
  show V cls 2 (rmOf 1 20 0 0) Z 0 [(0, .int x), (1, .int n)] [] M 0 0
  refine v_iload_n C (i := 0) d_Bs_isStretch_0 rfl rfl ?_
  refine v_callS C (As := [.int x]) (rest := []) w_145 (ct_Bs_isBlock x) (Nat.le_of_ble_eq_true rfl) (Nat.le_of_ble_eq_true rfl) w_146 w_1 hy_Bs_isBlock w_144 rfl (Nat.le_of_ble_eq_true rfl) ⟨by decide, by decide⟩ d_Bs_isStretch_1 (fun rv M hp => ?_)
  rcases hp with ⟨hb, rfl, rfl⟩ | ⟨hb, rfl, rfl⟩
  · refine V.eqst (st' := [.int 1]) rfl (V.cs (k' := 0) (n' := 0) rfl rfl ?_)
    refine v_if_eq C 29 d_Bs_isStretch_4 (by decide) (fun c_4 => absurd c_4 (by decide)) (fun c_4 => ?_)
    refine v_iload_n C (i := 1) d_Bs_isStretch_7 rfl rfl ?_
    refine v_iconst C (v := 1) d_Bs_isStretch_8 (by decide) ?_
    refine v_icmp_lt C 29 d_Bs_isStretch_9 (by decide) (fun c_9 => ?_) (fun c_9 => ?_)
    · refine v_iconst C (v := 0) d_Bs_isStretch_29 (by decide) ?_
      exact v_zret hQ C rfl rfl d_Bs_isStretch_30 (by omega) (by omega) (Or.inr ⟨fun h => h.2.1 c_9, rfl, rfl⟩)
    · refine v_iload_n C (i := 1) d_Bs_isStretch_12 rfl rfl ?_
      refine v_iconst C (v := 3) d_Bs_isStretch_13 (by decide) ?_
      refine v_icmp_gt C 29 d_Bs_isStretch_14 (by decide) (fun c_14 => ?_) (fun c_14 => ?_)
      · refine v_iconst C (v := 0) d_Bs_isStretch_29 (by decide) ?_
        exact v_zret hQ C rfl rfl d_Bs_isStretch_30 (by omega) (by omega) (Or.inr ⟨fun h => h.2.2.1 c_14, rfl, rfl⟩)
      · refine v_iload_n C (i := 0) d_Bs_isStretch_17 rfl rfl ?_
        refine v_iload_n C (i := 1) d_Bs_isStretch_18 rfl rfl ?_
        refine v_iadd C d_Bs_isStretch_19 ?_
        refine v_bipush C (v := 16) d_Bs_isStretch_20 (by decide) ?_
        refine v_icmp_gt C 29 d_Bs_isStretch_22 (by decide) (fun c_22 => ?_) (fun c_22 => ?_)
        · refine v_iconst C (v := 0) d_Bs_isStretch_29 (by decide) ?_
          exact v_zret hQ C rfl rfl d_Bs_isStretch_30 (by omega) (by omega) (Or.inr ⟨fun h => h.2.2.2 c_22, rfl, rfl⟩)
        · refine v_iconst C (v := 1) d_Bs_isStretch_25 (by decide) ?_
          refine v_goto C 30 d_Bs_isStretch_26 (by decide) ?_
          exact v_zret hQ C rfl rfl d_Bs_isStretch_30 (by omega) (by omega) (Or.inl ⟨⟨hb, c_9, c_14, c_22⟩, rfl, rfl⟩)
  · refine V.eqst (st' := [.int 0]) rfl (V.cs (k' := 0) (n' := 0) rfl rfl ?_)
    refine v_if_eq C 29 d_Bs_isStretch_4 (by decide) (fun c_4 => ?_) (fun c_4 => absurd (by decide) c_4)
    refine v_iconst C (v := 0) d_Bs_isStretch_29 (by decide) ?_
    exact v_zret hQ C rfl rfl d_Bs_isStretch_30 (by omega) (by omega) (Or.inr ⟨fun h => hb h.1, rfl, rfl⟩)
end
section
/-! pure: the store of the class -/
def shf (f : Nat → Int32) (m : Nat) : Nat → Int32 := fun j => if j < m then f (j + 1) else f j
theorem shf_0 (f : Nat → Int32) : shf f 0 = f := by funext j; simp [shf]
theorem shf_s (f : Nat → Int32) (i : Nat) : upd (shf f i) i (shf f i (i + 1)) = shf f (i + 1) := by
  funext j
  by_cases h : j = i
  · subst h
    rw [pk_us]
    simp only [shf]
    rw [if_neg (by omega), if_pos (by omega)]
  · rw [pk_un h]
    simp only [shf]
    by_cases h2 : j < i
    · rw [if_pos h2, if_pos (by omega)]
    · rw [if_neg h2, if_neg (by omega)]
/-- the least place below n at which f has b; n where there is none -/
def plc (f : Nat → Int32) (b : Int32) : Nat → Nat
  | 0 => 0
  | n + 1 => if plc f b n < n then plc f b n else if f n = b then n else n + 1
theorem plc_le (f : Nat → Int32) (b : Int32) : ∀ n, plc f b n ≤ n
  | 0 => Nat.le_refl 0
  | n + 1 => by
    have := plc_le f b n
    unfold plc
    split
    · omega
    · split <;> omega
theorem plc_of {f : Nat → Int32} {b : Int32} {p : Nat} (hp : f p = b) (hq : ∀ q, q < p → f q ≠ b) : ∀ n, p < n → plc f b n = p
  | 0, h => absurd h (Nat.not_lt_zero p)
  | n + 1, h => by
    unfold plc
    by_cases c : p < n
    · rw [plc_of hp hq n c, if_pos c]
    · have e : p = n := by omega
      subst e
      have hn : plc f b p = p := by
        have : ∀ m, m ≤ p → plc f b m = m := by
          intro m
          induction m with
          | zero => intro _; rfl
          | succ m ih =>
            intro hm
            unfold plc
            rw [ih (by omega), if_neg (by omega), if_neg (hq m (by omega))]
        exact this p (Nat.le_refl p)
      rw [hn, if_neg (by omega), if_pos hp]
theorem plc_no {f : Nat → Int32} {b : Int32} : ∀ n, (∀ q, q < n → f q ≠ b) → plc f b n = n
  | 0, _ => rfl
  | n + 1, h => by
    unfold plc
    rw [plc_no n (fun q hq => h q (by omega)), if_neg (by omega), if_neg (h n (by omega))]
theorem plc_at {f : Nat → Int32} {b : Int32} {n : Nat} (h : plc f b n < n) : f (plc f b n) = b := by
  induction n with
  | zero => exact absurd h (Nat.not_lt_zero _)
  | succ n ih =>
    unfold plc at h ⊢
    split
    · exact ih (by assumption)
    · split
      · assumption
      · rename_i h1 h2
        rw [if_neg h1, if_neg h2] at h
        omega
def G1.wb (G : G1) : G1 := if G.N 1 = 0 then G else (((G.sT 0 (upd (G.T 0) (G.T 1 0).toNatClampNeg (G.T 2 0))).sN 1 (G.N 1 - 1)).sT 1 (shf (G.T 1) (G.N 1 - 1))).sT 2 (shf (G.T 2) (G.N 1 - 1))
def G1.wbn (G : G1) : Nat → G1
  | 0 => G
  | n + 1 => (G.wbn n).wb
def G1.pt (G : G1) (b v : Int32) : G1 :=
  if plc (G.T 1) b (G.N 1) < G.N 1 then G.sT 2 (upd (G.T 2) (plc (G.T 1) b (G.N 1)) v)
  else if G.N 1 + 1 ≤ G.N 4 then ((G.sT 1 (upd (G.T 1) (G.N 1) b)).sT 2 (upd (G.T 2) (G.N 1) v)).sN 1 (G.N 1 + 1)
  else (((G.sT 1 (upd (G.T 1) (G.N 1) b)).sT 2 (upd (G.T 2) (G.N 1) v)).sN 1 (G.N 1 + 1)).wb
def G1.pv (G : G1) (b : Nat) : Int32 := if plc (G.T 1) (nI b) (G.N 1) < G.N 1 then G.T 2 (plc (G.T 1) (nI b) (G.N 1)) else G.T 0 b
theorem G1.sT_swap (G : G1) (x y x' : Nat → Int32) : ((G.sT 1 x).sT 2 y).sT 1 x' = (G.sT 1 x').sT 2 y := by
  have : va_up (va_up (va_up G.2.2.1 1 x) 2 y) 1 x' = va_up (va_up G.2.2.1 1 x') 2 y := by
    funext t
    by_cases h1 : t = 1
    · subst h1; rfl
    · by_cases h2 : t = 2
      · subst h2; rfl
      · simp [va_up, h1, h2]
  exact congrArg (fun z => ((G.1, G.2.1, z, G.2.2.2) : G1)) this
theorem G1.sT_same (G : G1) (k : Nat) (y y' : Nat → Int32) : (G.sT k y).sT k y' = G.sT k y' := by
  have : va_up (va_up G.2.2.1 k y) k y' = va_up G.2.2.1 k y' := bx_uu _ _ _ _
  exact congrArg (fun z => ((G.1, G.2.1, z, G.2.2.2) : G1)) this
theorem G1.sT_id (G : G1) (k : Nat) : G.sT k (G.T k) = G := by
  have : va_up G.2.2.1 k (G.T k) = G.2.2.1 := by
    funext t
    by_cases h : t = k
    · subst h; rw [va_up_self]
    · rw [va_up_ne _ _ h]
  exact congrArg (fun z => ((G.1, G.2.1, z, G.2.2.2) : G1)) this
/-- the cache's blocks are blocks, and there is place -/
def cOK (G : G1) : Prop := G.N 4 ≤ 6 ∧ G.N 1 ≤ G.N 4 + 1 ∧ ∀ j, j < G.N 1 → ∃ b, b < 16 ∧ G.T 1 j = nI b
end
section
set_option maxHeartbeats 4000000 in
set_option maxRecDepth 100000 in
theorem ct_St_loseCache {D : va_G} {l : Launch} {cI cZ cR cM : ClassId} {M : Mem} {ad : Nat → Nat} {G : G1} (h : R1 cI cR cM M ad G)  : Ct TT D cls (tyL cI cZ cR cM) l y_St_loseCache b_St_loseCache 1 none 0 0 0 0 [.ref (ad 1)] M (fun rv M' => rv = none ∧ R1 cI cR cM M' ad (G.sN 1 0)) := by
  refine ct_of "BlockTargetSession$Store" rfl (by decide) (Nat.le_of_ble_eq_true rfl) ?_
  intro Z hl hD hnm hQ C
  subst hl
  subst hD
  show V cls 1 (rmOf 0 0 0 0) Z 0 [(0, .ref (ad 1))] [] M 0 0
  refine v_aload_n C (i := 0) d_St_loseCache_0 rfl rfl ?_
  refine v_iconst C (v := 0) d_St_loseCache_1 (by decide) ?_
  refine V.eqst (st' := [.int (nI 0), .ref (ad 1)]) (by rw [nI_0]) ?_
  refine v_put C in_St t_St to_St nm_St h.st cl_St 4 (by decide) (fs' := [.int (nI (G.N 4)), .ref (ad 2), .ref (ad 3), .ref (ad 4), .int (nI 0)]) w_85 rfl rfl rfl rfl (Nat.le_of_ble_eq_true rfl) rfl d_St_loseCache_2 ?_
  have h : R1 cI cR cM (mset M (ad 1) (ob 3 [.int (nI (G.N 4)), .ref (ad 2), .ref (ad 3), .ref (ad 4), .int (nI 0)])) ad (G.sN 1 0) := h.pcs 0
  revert h
  generalize mset M (ad 1) (ob 3 [.int (nI (G.N 4)), .ref (ad 2), .ref (ad 3), .ref (ad 4), .int (nI 0)]) = M
  intro h
  exact v_vret hQ C rfl d_St_loseCache_5 (by omega) (by omega) ⟨rfl, h⟩
set_option maxHeartbeats 4000000 in
set_option maxRecDepth 100000 in
theorem ct_St_placeOf {D : va_G} {l : Launch} {cI cZ cR cM : ClassId} {M : Mem} {ad : Nat → Nat} {G : G1} (h : R1 cI cR cM M ad G) (hc : cOK G) (b : Int32) : Ct TT D cls (tyL cI cZ cR cM) l y_St_placeOf b_St_placeOf 3 (some .int) 0 0 0 0 [.ref (ad 1), .int b] M (fun rv M' => M' = M ∧ ((plc (G.T 1) b (G.N 1) < G.N 1 ∧ rv = some (.int (nI (plc (G.T 1) b (G.N 1))))) ∨ (plc (G.T 1) b (G.N 1) = G.N 1 ∧ rv = some (.int (-3))))) := by
  refine ct_of "BlockTargetSession$Store" rfl (by decide) (Nat.le_of_ble_eq_true rfl) ?_
  intro Z hl hD hnm hQ C
  subst hl
  subst hD
  show V cls 3 (rmOf 0 0 0 0) Z 0 [(0, .ref (ad 1)), (1, .int b)] [] M 0 0
  obtain ⟨hr6, hcs, hcb⟩ := hc
  refine v_iconst C (v := 0) d_St_placeOf_0 (by decide) ?_
  refine v_istore_n C (i := 2) (lv' := [(2, .int 0), (0, .ref (ad 1)), (1, .int b)]) d_St_placeOf_1 rfl (by decide) rfl ?_
  have L : ∀ (fu i : Nat), G.N 1 - i < fu → i ≤ G.N 1 → (∀ q, q < i → G.T 1 q ≠ b) → V cls 3 (rmOf 0 0 0 0) Z 2 [(2, .int (nI i)), (0, .ref (ad 1)), (1, .int b)] [] M 0 0 := by
    intro fu
    induction fu with
    | zero => intro i hf; omega
    | succ fu ih =>
      intro i hf hi hq
      refine v_iload_n C (i := 2) d_St_placeOf_2 rfl rfl ?_
      refine v_aload_n C (i := 0) d_St_placeOf_3 rfl rfl ?_
      refine v_get C (v := .int (nI (G.N 1))) in_St h.st cl_St 4 (by decide) w_85 rfl rfl d_St_placeOf_4 ?_
      refine v_icmp_ge C 28 d_St_placeOf_7 (by decide) (fun c_7 => ?_) (fun c_7 => ?_)
      · have hi2 : i = G.N 1 := Nat.le_antisymm hi ((nI_leI (by omega) (by omega)).mp c_7)
        refine v_bipush C (v := (-3)) d_St_placeOf_28 (by decide) ?_
        exact v_iret hQ C rfl d_St_placeOf_30 (by omega) (by omega) ⟨rfl, Or.inr ⟨plc_no _ (fun q hq2 => hq q (by omega)), rfl⟩⟩
      · have hi2 : i < G.N 1 := Nat.lt_of_not_le (fun h => c_7 ((nI_leI (by omega) (by omega)).mpr h))
        refine v_aload_n C (i := 0) d_St_placeOf_10 rfl rfl ?_
        refine v_get C (v := .ref (ad 3)) in_St h.st cl_St 2 (by decide) w_83 rfl rfl d_St_placeOf_11 ?_
        refine v_iload_n C (i := 2) d_St_placeOf_14 rfl rfl ?_
        refine v_iald C (N := G.N 4 + 1) (f := G.T 1) 0 h.cb rfl (pk_in i (G.N 4 + 1) (by omega)) d_St_placeOf_15 ?_
        refine V.eqst (st' := [.int ((G.T 1) i)]) (by rw [show Int32.toNatClampNeg (nI i) = i from pk_cl _ (hx := rfl)]) ?_
        refine v_iload_n C (i := 1) d_St_placeOf_16 rfl rfl ?_
        refine v_icmp_ne C 22 d_St_placeOf_17 (by decide) (fun c_17 => ?_) (fun c_17 => ?_)
        · refine v_iinc C (i := 2) (j := 0) (v := nI (i + 1)) (lv' := [(2, .int (nI (i + 1))), (0, .ref (ad 1)), (1, .int b)]) d_St_placeOf_22 rfl (nI_1 i) (by decide) rfl ?_
          refine v_goto C 2 d_St_placeOf_25 (by decide) ?_
          exact ih (i + 1) (by omega) (by omega) (fun q hq2 => by
            by_cases c : q = i
            · subst c; exact c_17
            · exact hq q (by omega))
        · refine v_iload_n C (i := 2) d_St_placeOf_20 rfl rfl ?_
          exact v_iret hQ C rfl d_St_placeOf_21 (by omega) (by omega) ⟨rfl, Or.inl ⟨by rw [plc_of c_17 hq _ hi2]; exact hi2, by rw [plc_of c_17 hq _ hi2]⟩⟩
  refine V.pick (lv' := [(2, .int (nI 0)), (0, .ref (ad 1)), (1, .int b)]) [0, 1, 2] (by rw [nI_0]; rfl) ?_
  exact L (G.N 1 + 1) 0 (by omega) (by omega) (fun q hq => absurd hq (Nat.not_lt_zero q))
set_option maxHeartbeats 4000000 in
set_option maxRecDepth 100000 in
theorem ct_St_presentInt {D : va_G} {l : Launch} {cI cZ cR cM : ClassId} {M : Mem} {ad : Nat → Nat} {G : G1} (h : R1 cI cR cM M ad G) (hc : cOK G) (b : Nat) (hb : b < 16) : Ct TT D cls (tyL cI cZ cR cM) l y_St_presentInt b_St_presentInt 3 (some .int) 1 22 0 0 [.ref (ad 1), .int (nI b)] M (fun rv M' => M' = M ∧ rv = some (.int (G.pv b))) := by
  refine ct_of "BlockTargetSession$Store" rfl (by decide) (Nat.le_of_ble_eq_true rfl) ?_
  intro Z hl hD hnm hQ C
  subst hl
  subst hD
  show V cls 3 (rmOf 1 22 0 0) Z 0 [(0, .ref (ad 1)), (1, .int (nI b))] [] M 0 0
  refine v_aload_n C (i := 0) d_St_presentInt_0 rfl rfl ?_
  refine v_iload_n C (i := 1) d_St_presentInt_1 rfl rfl ?_
  refine v_callV C (As := [.int (nI b)]) (rest := []) h.st cl_St rfl w_258 wp_10 (ct_St_placeOf h hc (nI b)) (Nat.le_of_ble_eq_true rfl) (Nat.le_of_ble_eq_true rfl) w_259 w_5 hy_St_placeOf w_256 rfl (Nat.le_of_ble_eq_true rfl) ⟨by decide, by decide⟩ d_St_presentInt_2 (fun rv M hp => ?_)
  obtain ⟨rfl, hp⟩ := hp
  rcases hp with ⟨hlt, rfl⟩ | ⟨heq, rfl⟩
  · refine V.eqst (st' := [.int (nI (plc (G.T 1) (nI b) (G.N 1)))]) rfl (V.cs (k' := 0) (n' := 0) rfl rfl ?_)
    have hcc := hc
    obtain ⟨hr6, hcs, hcb⟩ := hcc
    refine v_istore_n C (i := 2) (lv' := [(2, .int (nI (plc (G.T 1) (nI b) (G.N 1)))), (0, .ref (ad 1)), (1, .int (nI b))]) d_St_presentInt_5 rfl (by decide) rfl ?_
    refine v_iload_n C (i := 2) d_St_presentInt_6 rfl rfl ?_
    refine v_bipush C (v := (-3)) d_St_presentInt_7 (by decide) ?_
    refine v_icmp_ne C 21 d_St_presentInt_9 (by decide) (fun c_9 => ?_) (fun c_9 => absurd c_9 (fun z => nI_pos (n := plc (G.T 1) (nI b) (G.N 1)) (by omega) (by rw [z]; decide)))
    refine v_aload_n C (i := 0) d_St_presentInt_21 rfl rfl ?_
    refine v_get C (v := .ref (ad 4)) in_St h.st cl_St 3 (by decide) w_84 rfl rfl d_St_presentInt_22 ?_
    refine v_iload_n C (i := 2) d_St_presentInt_25 rfl rfl ?_
    refine v_iald C (N := G.N 4 + 1) (f := G.T 2) 0 h.cv rfl (pk_in (plc (G.T 1) (nI b) (G.N 1)) (G.N 4 + 1) (by omega)) d_St_presentInt_26 ?_
    refine V.eqst (st' := [.int ((G.T 2) (plc (G.T 1) (nI b) (G.N 1)))]) (by rw [show Int32.toNatClampNeg (nI (plc (G.T 1) (nI b) (G.N 1))) = plc (G.T 1) (nI b) (G.N 1) from pk_cl _ (hx := rfl)]) ?_
    exact v_iret hQ C rfl d_St_presentInt_27 (by omega) (by omega) ⟨rfl, by rw [G1.pv, if_pos hlt]⟩
  · refine V.eqst (st' := [.int (-3)]) rfl (V.cs (k' := 0) (n' := 0) rfl rfl ?_)
    refine v_istore_n C (i := 2) (lv' := [(2, .int (-3)), (0, .ref (ad 1)), (1, .int (nI b))]) d_St_presentInt_5 rfl (by decide) rfl ?_
    refine v_iload_n C (i := 2) d_St_presentInt_6 rfl rfl ?_
    refine v_bipush C (v := (-3)) d_St_presentInt_7 (by decide) ?_
    refine v_icmp_ne C 21 d_St_presentInt_9 (by decide) (fun c_9 => absurd (rfl) c_9) (fun c_9 => ?_)
    refine v_aload_n C (i := 0) d_St_presentInt_12 rfl rfl ?_
    refine v_get C (v := .ref (ad 2)) in_St h.st cl_St 1 (by decide) w_81 rfl rfl d_St_presentInt_13 ?_
    refine v_iload_n C (i := 1) d_St_presentInt_16 rfl rfl ?_
    refine v_iald C (N := 16) (f := G.T 0) 0 h.dk rfl (pk_in b 16 hb) d_St_presentInt_17 ?_
    refine V.eqst (st' := [.int ((G.T 0) b)]) (by rw [show Int32.toNatClampNeg (nI b) = b from pk_cl _ (hx := rfl)]) ?_
    refine v_goto C 27 d_St_presentInt_18 (by decide) ?_
    exact v_iret hQ C rfl d_St_presentInt_27 (by omega) (by omega) ⟨rfl, by rw [G1.pv, if_neg (by omega)]⟩
set_option maxHeartbeats 4000000 in
set_option maxRecDepth 100000 in
theorem ct_St_blockAt {D : va_G} {l : Launch} {cI cZ cR cM : ClassId} {M : Mem} {ad : Nat → Nat} {G : G1} (h : R1 cI cR cM M ad G) (hc : cOK G) (x : Int32) : Ct TT D cls (tyL cI cZ cR cM) l y_St_blockAt b_St_blockAt 2 (some .int) 0 0 0 0 [.ref (ad 1), .int x] M (fun rv M' => M' = M ∧ (((x < 0 ∨ nI (G.N 1) ≤ x) ∧ rv = some (.int (-3))) ∨ ∃ j, j < G.N 1 ∧ x = nI j ∧ rv = some (.int (G.T 1 j)))) := by
  refine ct_of "BlockTargetSession$Store" rfl (by decide) (Nat.le_of_ble_eq_true rfl) ?_
  intro Z hl hD hnm hQ C
  subst hl
  subst hD
  show V cls 2 (rmOf 0 0 0 0) Z 0 [(0, .ref (ad 1)), (1, .int x)] [] M 0 0
  obtain ⟨hr6, hcs, hcb⟩ := hc
  refine v_iload_n C (i := 1) d_St_blockAt_0 rfl rfl ?_
  refine v_if_lt C 21 d_St_blockAt_1 (by decide) (fun c_1 => ?_) (fun c_1 => ?_)
  · refine v_bipush C (v := (-3)) d_St_blockAt_21 (by decide) ?_
    exact v_iret hQ C rfl d_St_blockAt_23 (by omega) (by omega) ⟨rfl, Or.inl ⟨Or.inl c_1, rfl⟩⟩
  · refine v_iload_n C (i := 1) d_St_blockAt_4 rfl rfl ?_
    refine v_aload_n C (i := 0) d_St_blockAt_5 rfl rfl ?_
    refine v_get C (v := .int (nI (G.N 1))) in_St h.st cl_St 4 (by decide) w_85 rfl rfl d_St_blockAt_6 ?_
    refine v_icmp_ge C 21 d_St_blockAt_9 (by decide) (fun c_9 => ?_) (fun c_9 => ?_)
    · refine v_bipush C (v := (-3)) d_St_blockAt_21 (by decide) ?_
      exact v_iret hQ C rfl d_St_blockAt_23 (by omega) (by omega) ⟨rfl, Or.inl ⟨Or.inr c_9, rfl⟩⟩
    · obtain ⟨j, hj, rfl⟩ : ∃ j : Nat, j < G.N 1 ∧ x = nI j := by
        rcases pk_ix x (n := G.N 1) (by omega) with h | h | h
        · exact absurd h c_1
        · exact absurd h c_9
        · exact h
      refine v_aload_n C (i := 0) d_St_blockAt_12 rfl rfl ?_
      refine v_get C (v := .ref (ad 3)) in_St h.st cl_St 2 (by decide) w_83 rfl rfl d_St_blockAt_13 ?_
      refine v_iload_n C (i := 1) d_St_blockAt_16 rfl rfl ?_
      refine v_iald C (N := G.N 4 + 1) (f := G.T 1) 0 h.cb rfl (pk_in j (G.N 4 + 1) (by omega)) d_St_blockAt_17 ?_
      refine V.eqst (st' := [.int ((G.T 1) j)]) (by rw [show Int32.toNatClampNeg (nI j) = j from pk_cl _ (hx := rfl)]) ?_
      refine v_goto C 23 d_St_blockAt_18 (by decide) ?_
      exact v_iret hQ C rfl d_St_blockAt_23 (by omega) (by omega) ⟨rfl, Or.inr ⟨j, hj, rfl, rfl⟩⟩
set_option maxHeartbeats 4000000 in
set_option maxRecDepth 100000 in
theorem ct_St_writeBackFirst {D : va_G} {l : Launch} {cI cZ cR cM : ClassId} {M : Mem} {ad : Nat → Nat} {G : G1} (h : R1 cI cR cM M ad G) (hc : cOK G) : Ct TT D cls (tyL cI cZ cR cM) l y_St_writeBackFirst b_St_writeBackFirst 3 (some .int) 0 0 0 0 [.ref (ad 1)] M (fun rv M' => (G.N 1 = 0 ∧ rv = some (.int (-3)) ∧ R1 cI cR cM M' ad G.wb) ∨ (0 < G.N 1 ∧ rv = some (.int (G.T 1 0)) ∧ R1 cI cR cM M' ad G.wb)) := by
  refine ct_of "BlockTargetSession$Store" rfl (by decide) (Nat.le_of_ble_eq_true rfl) ?_
  intro Z hl hD hnm hQ C
  subst hl
  subst hD
  show V cls 3 (rmOf 0 0 0 0) Z 0 [(0, .ref (ad 1))] [] M 0 0
  obtain ⟨hr6, hcs, hcb⟩ := hc
  refine v_aload_n C (i := 0) d_St_writeBackFirst_0 rfl rfl ?_
  refine v_get C (v := .int (nI (G.N 1))) in_St h.st cl_St 4 (by decide) w_85 rfl rfl d_St_writeBackFirst_1 ?_
  refine v_if_ne C 10 d_St_writeBackFirst_4 (by decide) (fun c_4 => ?_) (fun c_4 => ?_)
  · obtain ⟨m, hm⟩ : ∃ m, G.N 1 = m + 1 := ⟨G.N 1 - 1, by have : G.N 1 ≠ 0 := fun h => c_4 (by rw [h]; exact nI_0); omega⟩
    obtain ⟨b, hb, eb⟩ := hcb 0 (by omega)
    refine v_aload_n C (i := 0) d_St_writeBackFirst_10 rfl rfl ?_
    refine v_get C (v := .ref (ad 3)) in_St h.st cl_St 2 (by decide) w_83 rfl rfl d_St_writeBackFirst_11 ?_
    refine v_iconst C (v := 0) d_St_writeBackFirst_14 (by decide) ?_
    refine v_iald C (N := G.N 4 + 1) (f := G.T 1) 0 h.cb rfl (pk_in 0 (G.N 4 + 1) (by omega) nI_0.symm) d_St_writeBackFirst_15 ?_
    refine V.eqst (st' := [.int ((G.T 1) 0)]) (by rw [show Int32.toNatClampNeg 0 = 0 from pk_cl _ (hx := nI_0.symm)]) ?_
    refine V.eqst (st' := [.int (nI b)]) (by rw [eb]) ?_
    refine v_istore_n C (i := 1) (lv' := [(1, .int (nI b)), (0, .ref (ad 1))]) d_St_writeBackFirst_16 rfl (by decide) rfl ?_
    refine v_aload_n C (i := 0) d_St_writeBackFirst_17 rfl rfl ?_
    refine v_get C (v := .ref (ad 2)) in_St h.st cl_St 1 (by decide) w_81 rfl rfl d_St_writeBackFirst_18 ?_
    refine v_iload_n C (i := 1) d_St_writeBackFirst_21 rfl rfl ?_
    refine v_aload_n C (i := 0) d_St_writeBackFirst_22 rfl rfl ?_
    refine v_get C (v := .ref (ad 4)) in_St h.st cl_St 3 (by decide) w_84 rfl rfl d_St_writeBackFirst_23 ?_
    refine v_iconst C (v := 0) d_St_writeBackFirst_26 (by decide) ?_
    refine v_iald C (N := G.N 4 + 1) (f := G.T 2) 0 h.cv rfl (pk_in 0 (G.N 4 + 1) (by omega) nI_0.symm) d_St_writeBackFirst_27 ?_
    refine V.eqst (st' := [.int ((G.T 2) 0), .int (nI b), .ref (ad 2)]) (by rw [show Int32.toNatClampNeg 0 = 0 from pk_cl _ (hx := nI_0.symm)]) ?_
    refine v_iast C (N := 16) (f := G.T 0) 0 h.dk rfl (pk_in b 16 hb) d_St_writeBackFirst_28 ?_
    rw [show Int32.toNatClampNeg (nI b) = b from pk_cl _ (hx := rfl)]
    have h : R1 cI cR cM (mset M (ad 2) (aI cI 16 (upd (G.T 0) b ((G.T 2) 0)))) ad (G.sT 0 (upd (G.T 0) b ((G.T 2) 0))) := h.pdk (upd (G.T 0) b ((G.T 2) 0))
    revert h
    generalize mset M (ad 2) (aI cI 16 (upd (G.T 0) b ((G.T 2) 0))) = M
    intro h
    refine v_aload_n C (i := 0) d_St_writeBackFirst_29 rfl rfl ?_
    refine v_dup C d_St_writeBackFirst_30 rfl ?_
    refine v_get C (v := .int (nI (G.N 1))) in_St h.st cl_St 4 (by decide) w_85 rfl rfl d_St_writeBackFirst_31 ?_
    refine v_iconst C (v := 1) d_St_writeBackFirst_34 (by decide) ?_
    refine v_isub C d_St_writeBackFirst_35 ?_
    refine V.eqst (st' := [.int (nI m), .ref (ad 1)]) (by rw [hm, nI_pred]) ?_
    refine v_put C in_St t_St to_St nm_St h.st cl_St 4 (by decide) (fs' := [.int (nI (G.N 4)), .ref (ad 2), .ref (ad 3), .ref (ad 4), .int (nI m)]) w_85 rfl rfl rfl rfl (Nat.le_of_ble_eq_true rfl) rfl d_St_writeBackFirst_36 ?_
    have h : R1 cI cR cM (mset M (ad 1) (ob 3 [.int (nI (G.N 4)), .ref (ad 2), .ref (ad 3), .ref (ad 4), .int (nI m)])) ad ((G.sT 0 (upd (G.T 0) b ((G.T 2) 0))).sN 1 m) := h.pcs m
    revert h
    generalize mset M (ad 1) (ob 3 [.int (nI (G.N 4)), .ref (ad 2), .ref (ad 3), .ref (ad 4), .int (nI m)]) = M
    intro h
    refine v_iconst C (v := 0) d_St_writeBackFirst_39 (by decide) ?_
    refine v_istore_n C (i := 2) (lv' := [(2, .int 0), (1, .int (nI b)), (0, .ref (ad 1))]) d_St_writeBackFirst_40 rfl (by decide) rfl ?_
    have hGa : ∃ Ga, Ga = ((G.sT 0 (upd (G.T 0) b ((G.T 2) 0))).sN 1 m) := ⟨_, rfl⟩
    obtain ⟨Ga, hGa⟩ := hGa
    rw [← hGa] at h
    have hGN : Ga.N 1 = m := by rw [hGa]; rfl
    have hG4 : Ga.N 4 = G.N 4 := by rw [hGa]; rfl
    have hG1 : Ga.T 1 = G.T 1 := by rw [hGa]; rfl
    have hG2 : Ga.T 2 = G.T 2 := by rw [hGa]; rfl
    have L : ∀ (fu i : Nat) (M : Mem), m - i < fu → i ≤ m → R1 cI cR cM M ad ((Ga.sT 1 (shf (G.T 1) i)).sT 2 (shf (G.T 2) i)) → V cls 3 (rmOf 0 0 0 0) Z 41 [(2, .int (nI i)), (1, .int (nI b)), (0, .ref (ad 1))] [] M 0 0 := by
      intro fu
      induction fu with
      | zero => intro i M hf; omega
      | succ fu ih =>
        intro i M hf hi h
        refine v_iload_n C (i := 2) d_St_writeBackFirst_41 rfl rfl ?_
        refine v_aload_n C (i := 0) d_St_writeBackFirst_42 rfl rfl ?_
        refine v_get C (v := .int (nI (Ga.N 1))) in_St h.st cl_St 4 (by decide) w_85 rfl rfl d_St_writeBackFirst_43 ?_
        refine v_icmp_ge C 83 d_St_writeBackFirst_46 (by decide) (fun c_46 => ?_) (fun c_46 => ?_)
        · have hi2 : i = m := Nat.le_antisymm hi ((nI_leI (by omega) (by omega)).mp (by rw [hGN] at c_46; exact c_46))
          refine v_iload_n C (i := 1) d_St_writeBackFirst_83 rfl rfl ?_
          exact v_iret hQ C rfl d_St_writeBackFirst_84 (by omega) (by omega) (Or.inr ⟨by omega, by rw [eb], by
            subst hi2
            rw [G1.wb, if_neg (by omega), show G.N 1 - 1 = i from by omega, eb, pk_cl b, ← hGa]
            exact h⟩)
        · have hi2 : i < m := Nat.lt_of_not_le (fun h => c_46 (by rw [hGN]; exact (nI_leI (by omega) (by omega)).mpr h))
          refine v_aload_n C (i := 0) d_St_writeBackFirst_49 rfl rfl ?_
          refine v_get C (v := .ref (ad 3)) in_St h.st cl_St 2 (by decide) w_83 rfl rfl d_St_writeBackFirst_50 ?_
          refine v_iload_n C (i := 2) d_St_writeBackFirst_53 rfl rfl ?_
          refine v_aload_n C (i := 0) d_St_writeBackFirst_54 rfl rfl ?_
          refine v_get C (v := .ref (ad 3)) in_St h.st cl_St 2 (by decide) w_83 rfl rfl d_St_writeBackFirst_55 ?_
          refine v_iload_n C (i := 2) d_St_writeBackFirst_58 rfl rfl ?_
          refine v_iconst C (v := 1) d_St_writeBackFirst_59 (by decide) ?_
          refine v_iadd C d_St_writeBackFirst_60 ?_
          refine V.eqst (st' := [.int (nI (i + 1)), .ref (ad 3), .int (nI i), .ref (ad 3)]) (by rw [nI_1]) ?_
          refine v_iald C (N := Ga.N 4 + 1) (f := shf (G.T 1) i) 0 h.cb rfl (pk_in (i + 1) (Ga.N 4 + 1) (by omega)) d_St_writeBackFirst_61 ?_
          refine V.eqst (st' := [.int ((shf (G.T 1) i) (i + 1)), .int (nI i), .ref (ad 3)]) (by rw [show Int32.toNatClampNeg (nI (i + 1)) = i + 1 from pk_cl _ (hx := rfl)]) ?_
          refine v_iast C (N := Ga.N 4 + 1) (f := shf (G.T 1) i) 0 h.cb rfl (pk_in i (Ga.N 4 + 1) (by omega)) d_St_writeBackFirst_62 ?_
          rw [show Int32.toNatClampNeg (nI i) = i from pk_cl _ (hx := rfl)]
          have h : R1 cI cR cM (mset M (ad 3) (aI cI (Ga.N 4 + 1) (upd (shf (G.T 1) i) i ((shf (G.T 1) i) (i + 1))))) ad (((Ga.sT 1 (shf (G.T 1) i)).sT 2 (shf (G.T 2) i)).sT 1 (upd (shf (G.T 1) i) i ((shf (G.T 1) i) (i + 1)))) := h.pcb (upd (shf (G.T 1) i) i ((shf (G.T 1) i) (i + 1)))
          revert h
          generalize mset M (ad 3) (aI cI (Ga.N 4 + 1) (upd (shf (G.T 1) i) i ((shf (G.T 1) i) (i + 1)))) = M
          intro h
          rw [shf_s, G1.sT_swap] at h
          refine v_aload_n C (i := 0) d_St_writeBackFirst_63 rfl rfl ?_
          refine v_get C (v := .ref (ad 4)) in_St h.st cl_St 3 (by decide) w_84 rfl rfl d_St_writeBackFirst_64 ?_
          refine v_iload_n C (i := 2) d_St_writeBackFirst_67 rfl rfl ?_
          refine v_aload_n C (i := 0) d_St_writeBackFirst_68 rfl rfl ?_
          refine v_get C (v := .ref (ad 4)) in_St h.st cl_St 3 (by decide) w_84 rfl rfl d_St_writeBackFirst_69 ?_
          refine v_iload_n C (i := 2) d_St_writeBackFirst_72 rfl rfl ?_
          refine v_iconst C (v := 1) d_St_writeBackFirst_73 (by decide) ?_
          refine v_iadd C d_St_writeBackFirst_74 ?_
          refine V.eqst (st' := [.int (nI (i + 1)), .ref (ad 4), .int (nI i), .ref (ad 4)]) (by rw [nI_1]) ?_
          refine v_iald C (N := Ga.N 4 + 1) (f := shf (G.T 2) i) 0 h.cv rfl (pk_in (i + 1) (Ga.N 4 + 1) (by omega)) d_St_writeBackFirst_75 ?_
          refine V.eqst (st' := [.int ((shf (G.T 2) i) (i + 1)), .int (nI i), .ref (ad 4)]) (by rw [show Int32.toNatClampNeg (nI (i + 1)) = i + 1 from pk_cl _ (hx := rfl)]) ?_
          refine v_iast C (N := Ga.N 4 + 1) (f := shf (G.T 2) i) 0 h.cv rfl (pk_in i (Ga.N 4 + 1) (by omega)) d_St_writeBackFirst_76 ?_
          rw [show Int32.toNatClampNeg (nI i) = i from pk_cl _ (hx := rfl)]
          have h : R1 cI cR cM (mset M (ad 4) (aI cI (Ga.N 4 + 1) (upd (shf (G.T 2) i) i ((shf (G.T 2) i) (i + 1))))) ad (((Ga.sT 1 (shf (G.T 1) (i + 1))).sT 2 (shf (G.T 2) i)).sT 2 (upd (shf (G.T 2) i) i ((shf (G.T 2) i) (i + 1)))) := h.pcv (upd (shf (G.T 2) i) i ((shf (G.T 2) i) (i + 1)))
          revert h
          generalize mset M (ad 4) (aI cI (Ga.N 4 + 1) (upd (shf (G.T 2) i) i ((shf (G.T 2) i) (i + 1)))) = M
          intro h
          rw [shf_s, G1.sT_same] at h
          refine v_iinc C (i := 2) (j := 0) (v := nI (i + 1)) (lv' := [(2, .int (nI (i + 1))), (1, .int (nI b)), (0, .ref (ad 1))]) d_St_writeBackFirst_77 rfl (nI_1 i) (by decide) rfl ?_
          refine v_goto C 41 d_St_writeBackFirst_80 (by decide) ?_
          refine V.pick (lv' := [(2, .int (nI (i + 1))), (1, .int (nI b)), (0, .ref (ad 1))]) [0, 1, 2] rfl ?_
          exact ih (i + 1) M (by omega) (by omega) h
    refine V.pick (lv' := [(2, .int (nI 0)), (1, .int (nI b)), (0, .ref (ad 1))]) [0, 1, 2] (by rw [nI_0]; rfl) ?_
    refine L (m + 1) 0 M (by omega) (by omega) ?_
    rw [shf_0, shf_0, ← hG1, G1.sT_id, ← hG2, G1.sT_id]
    exact h
  · have hz0 : G.N 1 = 0 := Classical.byContradiction fun h => nI_ne0 (Nat.pos_of_ne_zero h) (by omega) c_4
    refine v_bipush C (v := (-3)) d_St_writeBackFirst_7 (by decide) ?_
    exact v_iret hQ C rfl d_St_writeBackFirst_9 (by omega) (by omega) (Or.inl ⟨hz0, rfl, by rw [G1.wb, if_pos hz0]; exact h⟩)
end
section
theorem wb_N1 (G : G1) : G.wb.N 1 = G.N 1 - 1 := by
  unfold G1.wb
  split
  · omega
  · rfl
theorem wb_N (G : G1) (k : Nat) (hk : k ≠ 1) : G.wb.N k = G.N k := by
  unfold G1.wb
  split
  · rfl
  · exact va_up_ne _ _ hk
theorem wb_I (G : G1) : G.wb.I = G.I := by
  unfold G1.wb
  split <;> rfl
theorem wb_R (G : G1) : G.wb.R = G.R := by
  unfold G1.wb
  split <;> rfl
theorem wb_T (G : G1) (k : Nat) (hk : 3 ≤ k) : G.wb.T k = G.T k := by
  unfold G1.wb
  split
  · rfl
  · show va_up (va_up (va_up G.2.2.1 0 _) 1 _) 2 _ k = _
    rw [va_up_ne _ _ (by omega), va_up_ne _ _ (by omega), va_up_ne _ _ (by omega)]
theorem wb_T1 (G : G1) (h : 0 < G.N 1) : G.wb.T 1 = shf (G.T 1) (G.N 1 - 1) := by
  unfold G1.wb
  rw [if_neg (by omega)]
  rfl
theorem wb_T2 (G : G1) (h : 0 < G.N 1) : G.wb.T 2 = shf (G.T 2) (G.N 1 - 1) := by
  unfold G1.wb
  rw [if_neg (by omega)]
  rfl
theorem wb_T0 (G : G1) (h : 0 < G.N 1) : G.wb.T 0 = upd (G.T 0) (G.T 1 0).toNatClampNeg (G.T 2 0) := by
  unfold G1.wb
  rw [if_neg (by omega)]
  rfl
theorem wb_cOK {G : G1} (h : cOK G) : cOK G.wb := by
  refine ⟨by rw [wb_N G 4 (by decide)]; exact h.1, by rw [wb_N1, wb_N G 4 (by decide)]; have := h.2.1; omega, fun j hj => ?_⟩
  rw [wb_N1] at hj
  rw [wb_T1 G (by omega)]
  simp only [shf]
  rw [if_pos hj]
  exact h.2.2 (j + 1) (by omega)
theorem wbn_cOK {G : G1} (h : cOK G) : ∀ n, cOK (G.wbn n)
  | 0 => h
  | n + 1 => wb_cOK (wbn_cOK h n)
theorem wbn_N1 (G : G1) : ∀ n, (G.wbn n).N 1 = G.N 1 - n
  | 0 => rfl
  | n + 1 => by
    show (G.wbn n).wb.N 1 = _
    rw [wb_N1, wbn_N1 G n]
    omega
end
section
set_option maxHeartbeats 4000000 in
set_option maxRecDepth 100000 in
theorem ct_St_put {D : va_G} {l : Launch} {cI cZ cR cM : ClassId} {M : Mem} {ad : Nat → Nat} {G : G1} (h : R1 cI cR cM M ad G) (hc : cOK G) (hcr : G.N 1 ≤ G.N 4) (b : Nat) (hb : b < 16) (v : Int32) : Ct TT D cls (tyL cI cZ cR cM) l y_St_put b_St_put 4 none 1 22 0 0 [.ref (ad 1), .int (nI b), .int v] M (fun rv M' => rv = none ∧ R1 cI cR cM M' ad (G.pt (nI b) v)) := by
  refine ct_of "BlockTargetSession$Store" rfl (by decide) (Nat.le_of_ble_eq_true rfl) ?_
  intro Z hl hD hnm hQ C
  subst hl
  subst hD
  show V cls 4 (rmOf 1 22 0 0) Z 0 [(0, .ref (ad 1)), (1, .int (nI b)), (2, .int v)] [] M 0 0
  have hcc := hc
  obtain ⟨hr6, hcs, hcb⟩ := hcc
  refine v_aload_n C (i := 0) d_St_put_0 rfl rfl ?_
  refine v_iload_n C (i := 1) d_St_put_1 rfl rfl ?_
  refine v_callV C (As := [.int (nI b)]) (rest := []) h.st cl_St rfl w_258 wp_10 (ct_St_placeOf h hc (nI b)) (Nat.le_of_ble_eq_true rfl) (Nat.le_of_ble_eq_true rfl) w_259 w_5 hy_St_placeOf w_256 rfl (Nat.le_of_ble_eq_true rfl) ⟨by decide, by decide⟩ d_St_put_2 (fun rv M hp => ?_)
  obtain ⟨rfl, hp⟩ := hp
  rcases hp with ⟨hlt, rfl⟩ | ⟨heq, rfl⟩
  · refine V.eqst (st' := [.int (nI (plc (G.T 1) (nI b) (G.N 1)))]) rfl (V.cs (k' := 0) (n' := 0) rfl rfl ?_)
    refine v_istore_n C (i := 3) (lv' := [(3, .int (nI (plc (G.T 1) (nI b) (G.N 1)))), (0, .ref (ad 1)), (1, .int (nI b)), (2, .int v)]) d_St_put_5 rfl (by decide) rfl ?_
    refine v_iload_n C (i := 3) d_St_put_6 rfl rfl ?_
    refine v_bipush C (v := (-3)) d_St_put_7 (by decide) ?_
    refine v_icmp_eq C 20 d_St_put_9 (by decide) (fun c_9 => absurd c_9 (fun z => nI_pos (n := plc (G.T 1) (nI b) (G.N 1)) (by omega) (by rw [z]; decide))) (fun c_9 => ?_)
    refine v_aload_n C (i := 0) d_St_put_12 rfl rfl ?_
    refine v_get C (v := .ref (ad 4)) in_St h.st cl_St 3 (by decide) w_84 rfl rfl d_St_put_13 ?_
    refine v_iload_n C (i := 3) d_St_put_16 rfl rfl ?_
    refine v_iload_n C (i := 2) d_St_put_17 rfl rfl ?_
    refine v_iast C (N := G.N 4 + 1) (f := G.T 2) 0 h.cv rfl (pk_in (plc (G.T 1) (nI b) (G.N 1)) (G.N 4 + 1) (by omega)) d_St_put_18 ?_
    rw [show Int32.toNatClampNeg (nI (plc (G.T 1) (nI b) (G.N 1))) = plc (G.T 1) (nI b) (G.N 1) from pk_cl _ (hx := rfl)]
    have h : R1 cI cR cM (mset M (ad 4) (aI cI (G.N 4 + 1) (upd (G.T 2) (plc (G.T 1) (nI b) (G.N 1)) v))) ad (G.sT 2 (upd (G.T 2) (plc (G.T 1) (nI b) (G.N 1)) v)) := h.pcv (upd (G.T 2) (plc (G.T 1) (nI b) (G.N 1)) v)
    revert h
    generalize mset M (ad 4) (aI cI (G.N 4 + 1) (upd (G.T 2) (plc (G.T 1) (nI b) (G.N 1)) v)) = M
    intro h
    exact v_vret hQ C rfl d_St_put_19 (by omega) (by omega) ⟨rfl, by rw [G1.pt, if_pos hlt]; exact h⟩
  · refine V.eqst (st' := [.int (-3)]) rfl (V.cs (k' := 0) (n' := 0) rfl rfl ?_)
    refine v_istore_n C (i := 3) (lv' := [(3, .int (-3)), (0, .ref (ad 1)), (1, .int (nI b)), (2, .int v)]) d_St_put_5 rfl (by decide) rfl ?_
    refine v_iload_n C (i := 3) d_St_put_6 rfl rfl ?_
    refine v_bipush C (v := (-3)) d_St_put_7 (by decide) ?_
    refine v_icmp_eq C 20 d_St_put_9 (by decide) (fun c_9 => ?_) (fun c_9 => absurd (rfl) c_9)
    refine v_aload_n C (i := 0) d_St_put_20 rfl rfl ?_
    refine v_get C (v := .ref (ad 3)) in_St h.st cl_St 2 (by decide) w_83 rfl rfl d_St_put_21 ?_
    refine v_aload_n C (i := 0) d_St_put_24 rfl rfl ?_
    refine v_get C (v := .int (nI (G.N 1))) in_St h.st cl_St 4 (by decide) w_85 rfl rfl d_St_put_25 ?_
    refine v_iload_n C (i := 1) d_St_put_28 rfl rfl ?_
    refine v_iast C (N := G.N 4 + 1) (f := G.T 1) 0 h.cb rfl (pk_in (G.N 1) (G.N 4 + 1) (by omega)) d_St_put_29 ?_
    rw [show Int32.toNatClampNeg (nI (G.N 1)) = G.N 1 from pk_cl _ (hx := rfl)]
    have h : R1 cI cR cM (mset M (ad 3) (aI cI (G.N 4 + 1) (upd (G.T 1) (G.N 1) (nI b)))) ad (G.sT 1 (upd (G.T 1) (G.N 1) (nI b))) := h.pcb (upd (G.T 1) (G.N 1) (nI b))
    revert h
    generalize mset M (ad 3) (aI cI (G.N 4 + 1) (upd (G.T 1) (G.N 1) (nI b))) = M
    intro h
    refine v_aload_n C (i := 0) d_St_put_30 rfl rfl ?_
    refine v_get C (v := .ref (ad 4)) in_St h.st cl_St 3 (by decide) w_84 rfl rfl d_St_put_31 ?_
    refine v_aload_n C (i := 0) d_St_put_34 rfl rfl ?_
    refine v_get C (v := .int (nI (G.N 1))) in_St h.st cl_St 4 (by decide) w_85 rfl rfl d_St_put_35 ?_
    refine v_iload_n C (i := 2) d_St_put_38 rfl rfl ?_
    refine v_iast C (N := G.N 4 + 1) (f := G.T 2) 0 h.cv rfl (pk_in (G.N 1) (G.N 4 + 1) (by omega)) d_St_put_39 ?_
    rw [show Int32.toNatClampNeg (nI (G.N 1)) = G.N 1 from pk_cl _ (hx := rfl)]
    have h : R1 cI cR cM (mset M (ad 4) (aI cI (G.N 4 + 1) (upd (G.T 2) (G.N 1) v))) ad ((G.sT 1 (upd (G.T 1) (G.N 1) (nI b))).sT 2 (upd (G.T 2) (G.N 1) v)) := h.pcv (upd (G.T 2) (G.N 1) v)
    revert h
    generalize mset M (ad 4) (aI cI (G.N 4 + 1) (upd (G.T 2) (G.N 1) v)) = M
    intro h
    refine v_aload_n C (i := 0) d_St_put_40 rfl rfl ?_
    refine v_dup C d_St_put_41 rfl ?_
    refine v_get C (v := .int (nI (G.N 1))) in_St h.st cl_St 4 (by decide) w_85 rfl rfl d_St_put_42 ?_
    refine v_iconst C (v := 1) d_St_put_45 (by decide) ?_
    refine v_iadd C d_St_put_46 ?_
    refine V.eqst (st' := [.int (nI (G.N 1 + 1)), .ref (ad 1)]) (by rw [nI_1]) ?_
    refine v_put C in_St t_St to_St nm_St h.st cl_St 4 (by decide) (fs' := [.int (nI (G.N 4)), .ref (ad 2), .ref (ad 3), .ref (ad 4), .int (nI (G.N 1 + 1))]) w_85 rfl rfl rfl rfl (Nat.le_of_ble_eq_true rfl) rfl d_St_put_47 ?_
    have h : R1 cI cR cM (mset M (ad 1) (ob 3 [.int (nI (G.N 4)), .ref (ad 2), .ref (ad 3), .ref (ad 4), .int (nI (G.N 1 + 1))])) ad (((G.sT 1 (upd (G.T 1) (G.N 1) (nI b))).sT 2 (upd (G.T 2) (G.N 1) v)).sN 1 (G.N 1 + 1)) := h.pcs (G.N 1 + 1)
    revert h
    generalize mset M (ad 1) (ob 3 [.int (nI (G.N 4)), .ref (ad 2), .ref (ad 3), .ref (ad 4), .int (nI (G.N 1 + 1))]) = M
    intro h
    refine v_aload_n C (i := 0) d_St_put_50 rfl rfl ?_
    refine v_get C (v := .int (nI (G.N 1 + 1))) in_St h.st cl_St 4 (by decide) w_85 rfl rfl d_St_put_51 ?_
    refine v_aload_n C (i := 0) d_St_put_54 rfl rfl ?_
    refine v_get C (v := .int (nI (G.N 4))) in_St h.st cl_St 0 (by decide) w_80 rfl rfl d_St_put_55 ?_
    refine v_icmp_le C 66 d_St_put_58 (by decide) (fun c_58 => ?_) (fun c_58 => ?_)
    · have hle : G.N 1 + 1 ≤ G.N 4 := (nI_leI (by omega) (by omega)).mp c_58
      exact v_vret hQ C rfl d_St_put_66 (by omega) (by omega) ⟨rfl, by rw [G1.pt, if_neg (by omega), if_pos hle]; exact h⟩
    · have hle : ¬ G.N 1 + 1 ≤ G.N 4 := fun z => c_58 ((nI_leI (by omega) (by omega)).mpr z)
      have hc2 : cOK (((G.sT 1 (upd (G.T 1) (G.N 1) (nI b))).sT 2 (upd (G.T 2) (G.N 1) v)).sN 1 (G.N 1 + 1)) := ⟨hr6, (by show G.N 1 + 1 ≤ G.N 4 + 1; omega), fun j hj => by
        show ∃ b_1, b_1 < 16 ∧ upd (G.T 1) (G.N 1) (nI b) j = nI b_1
        by_cases c : j = G.N 1
        · subst c; exact ⟨b, hb, pk_us⟩
        · rw [pk_un c]; exact hcb j (by have : j < G.N 1 + 1 := hj; omega)⟩
      refine v_aload_n C (i := 0) d_St_put_61 rfl rfl ?_
      refine v_callV C (As := []) (rest := []) h.st cl_St rfl w_261 w_262 (ct_St_writeBackFirst h hc2) (Nat.le_of_ble_eq_true rfl) (Nat.le_of_ble_eq_true rfl) w_263 w_5 hy_St_writeBackFirst w_260 rfl (Nat.le_of_ble_eq_true rfl) ⟨by decide, by decide⟩ d_St_put_62 (fun rv M hp => ?_)
      obtain ⟨z, rfl, hw⟩ : ∃ z : Int32, rv = some (.int z) ∧ R1 cI cR cM M ad (G1.wb (((G.sT 1 (upd (G.T 1) (G.N 1) (nI b))).sT 2 (upd (G.T 2) (G.N 1) v)).sN 1 (G.N 1 + 1))) := by
        rcases hp with ⟨_, e, q⟩ | ⟨_, e, q⟩
        · exact ⟨_, e, q⟩
        · exact ⟨_, e, q⟩
      refine V.eqst (st' := [.int z]) rfl (V.cs (k' := 0) (n' := 0) rfl rfl ?_)
      refine v_pop C d_St_put_65 rfl ?_
      exact v_vret hQ C rfl d_St_put_66 (by omega) (by omega) ⟨rfl, by rw [G1.pt, if_neg (by omega), if_neg hle]; exact hw⟩
set_option maxHeartbeats 4000000 in
set_option maxRecDepth 100000 in
theorem ct_St_writeBackAll {D : va_G} {l : Launch} {cI cZ cR cM : ClassId} {M : Mem} {ad : Nat → Nat} {G : G1} (h : R1 cI cR cM M ad G) (hc : cOK G) : Ct TT D cls (tyL cI cZ cR cM) l y_St_writeBackAll b_St_writeBackAll 2 none 1 22 0 0 [.ref (ad 1)] M (fun rv M' => rv = none ∧ R1 cI cR cM M' ad (G.wbn (G.N 1))) := by
  refine ct_of "BlockTargetSession$Store" rfl (by decide) (Nat.le_of_ble_eq_true rfl) ?_
  intro Z hl hD hnm hQ C
  subst hl
  subst hD
  show V cls 2 (rmOf 1 22 0 0) Z 0 [(0, .ref (ad 1))] [] M 0 0
  have hcc := hc
  obtain ⟨hr6, hcs, hcb⟩ := hcc
  refine v_aload_n C (i := 0) d_St_writeBackAll_0 rfl rfl ?_
  refine v_get C (v := .int (nI (G.N 1))) in_St h.st cl_St 4 (by decide) w_85 rfl rfl d_St_writeBackAll_1 ?_
  refine v_istore_n C (i := 1) (lv' := [(1, .int (nI (G.N 1))), (0, .ref (ad 1))]) d_St_writeBackAll_4 rfl (by decide) rfl ?_
  have L : ∀ (k j : Nat) (M : Mem), k + j = G.N 1 → R1 cI cR cM M ad (G.wbn j) → V cls 2 (rmOf 1 22 0 0) Z 5 [(1, .int (nI k)), (0, .ref (ad 1))] [] M 0 0 := by
    intro k
    induction k with
    | zero =>
      intro j M hj h
      refine v_iload_n C (i := 1) d_St_writeBackAll_5 rfl rfl ?_
      refine v_if_le C 20 d_St_writeBackAll_6 (by decide) (fun c_6 => ?_) (fun c_6 => absurd (by rw [nI_0]; decide) c_6)
      exact v_vret hQ C rfl d_St_writeBackAll_20 (by omega) (by omega) ⟨rfl, by rw [show G.N 1 = j from by omega]; exact h⟩
    | succ k ih =>
      intro j M hj h
      refine v_iload_n C (i := 1) d_St_writeBackAll_5 rfl rfl ?_
      refine v_if_le C 20 d_St_writeBackAll_6 (by decide) (fun c_6 => absurd c_6 (nI_nle (by omega) (by omega))) (fun c_6 => ?_)
      refine v_aload_n C (i := 0) d_St_writeBackAll_9 rfl rfl ?_
      refine v_callV C (As := []) (rest := []) h.st cl_St rfl w_261 w_262 (ct_St_writeBackFirst h (wbn_cOK hc j)) (Nat.le_of_ble_eq_true rfl) (Nat.le_of_ble_eq_true rfl) w_263 w_5 hy_St_writeBackFirst w_260 rfl (Nat.le_of_ble_eq_true rfl) ⟨by decide, by decide⟩ d_St_writeBackAll_10 (fun rv M hp => ?_)
      obtain ⟨z, rfl, hw⟩ : ∃ z : Int32, rv = some (.int z) ∧ R1 cI cR cM M ad ((G.wbn j).wb) := by
        rcases hp with ⟨_, e, q⟩ | ⟨_, e, q⟩
        · exact ⟨_, e, q⟩
        · exact ⟨_, e, q⟩
      refine V.eqst (st' := [.int z]) rfl (V.cs (k' := 0) (n' := 0) rfl rfl ?_)
      refine v_pop C d_St_writeBackAll_13 rfl ?_
      refine v_iinc C (i := 1) (j := 0) (v := nI k) (lv' := [(1, .int (nI k)), (0, .ref (ad 1))]) d_St_writeBackAll_14 rfl (pk_m1 k) (by decide) rfl ?_
      refine v_goto C 5 d_St_writeBackAll_17 (by decide) ?_
      exact ih (j + 1) M (by omega) hw
  exact L (G.N 1) 0 M (by omega) h
end
section
/-! pure: the class's session, lines, requests -/
def lx (u : Int32) : Nat := if u = 0 then 1 else 0
theorem lx_lt (u : Int32) : lx u < 2 := by unfold lx; split <;> omega
def cnt (f : Nat → Int32) (b : Int32) : Nat → Nat
  | 0 => 0
  | n + 1 => cnt f b n + (if f n = b then 1 else 0)
theorem cnt_le (f : Nat → Int32) (b : Int32) : ∀ n, cnt f b n ≤ n
  | 0 => Nat.le_refl 0
  | n + 1 => by
    have := cnt_le f b n
    unfold cnt
    split <;> omega
def G1.bg (G : G1) : G1 := ((((G.sI 1 1).sI 2 (G.I 2 + 1)).sI 3 0).sI 4 0).sI 5 (G.I 0)
def G1.sRR (G : G1) (r : Nat → Nat → Int32) : G1 := (G.1, G.2.1, G.2.2.1, r)
theorem G1.sRR_sT (G : G1) (k : Nat) (a b : Nat → Int32) (r : Nat → Nat → Int32) : ((G.sT k a).sRR r).sT k b = (G.sT k b).sRR r := by
  have : va_up (va_up G.2.2.1 k a) k b = va_up G.2.2.1 k b := bx_uu _ _ _ _
  exact congrArg (fun z => ((G.1, G.2.1, z, r) : G1)) this
theorem G1.sRR_id (G : G1) : G.sRR G.R = G := rfl
def rop (f : Nat → Int32) (i : Nat) : Nat → Int32 := fun j => if j < i ∧ f j = 1 then 0 else f j
theorem rop_0 (f : Nat → Int32) : rop f 0 = f := by funext j; simp [rop]
theorem rop_t (f : Nat → Int32) (i : Nat) (h : f i = 1) : upd (rop f i) i 0 = rop f (i + 1) := by
  funext j
  by_cases c : j = i
  · subst c
    rw [pk_us]
    simp [rop, h]
  · rw [pk_un c]
    simp only [rop]
    by_cases c2 : j < i ∧ f j = 1
    · rw [if_pos c2, if_pos ⟨by omega, c2.2⟩]
    · rw [if_neg c2, if_neg (fun z => c2 ⟨by omega, z.2⟩)]
theorem rop_f (f : Nat → Int32) (i : Nat) (h : ¬ f i = 1) : rop f i = rop f (i + 1) := by
  funext j
  simp only [rop]
  by_cases c2 : j < i ∧ f j = 1
  · rw [if_pos c2, if_pos ⟨by omega, c2.2⟩]
  · rw [if_neg c2, if_neg (fun z => by
      by_cases c : j = i
      · subst c; exact h z.2
      · exact c2 ⟨by omega, z.2⟩)]
theorem rop_at (f : Nat → Int32) (i : Nat) : rop f i i = f i := by simp [rop]
def G1.cl2 (G : G1) : G1 := (((((G.sN 2 0).sN 3 0).sI 1 0).sI 3 0).sI 4 0).sI 5 0
def G1.bk (G : G1) (r : Nat → Nat → Int32) : G1 := (G.cl2.sT 7 (rop (G.T 7) (G.N 0))).sRR r
abbrev v6 (a b c d e f : Int32) : Nat → Int32 := fun k => match k with
  | 0 => a
  | 1 => b
  | 2 => c
  | 3 => d
  | 4 => e
  | _ => f
def G1.sM (G : G1) (x j : Nat) (v : Nat → Int32) : G1 := (G.1, G.2.1, fun t i => if 10 + 10 * x ≤ t ∧ t ≤ 15 + 10 * x ∧ i = j then v (t - (10 + 10 * x)) else G.T t i, G.2.2.2)
theorem sM_at (G : G1) (x j : Nat) (v : Nat → Int32) (k : Nat) (hk : k < 6) : (G.sM x j v).T (10 + k + 10 * x) j = v k := by
  show (if 10 + 10 * x ≤ 10 + k + 10 * x ∧ 10 + k + 10 * x ≤ 15 + 10 * x ∧ j = j then v (10 + k + 10 * x - (10 + 10 * x)) else _) = _
  rw [if_pos ⟨by omega, by omega, rfl⟩]
  congr 1
  omega
theorem sM_ne (G : G1) (x j : Nat) (v : Nat → Int32) (t i : Nat) (h : ¬ (10 + 10 * x ≤ t ∧ t ≤ 15 + 10 * x ∧ i = j)) : (G.sM x j v).T t i = G.T t i := if_neg h
theorem sM_low (G : G1) (x j : Nat) (v : Nat → Int32) (t : Nat) (h : t < 10) : (G.sM x j v).T t = G.T t := funext fun i => sM_ne G x j v t i (by omega)
theorem mf_sM (G : G1) (x j : Nat) (v : Nat → Int32) : mf (G.sM x j v) x j = [.int (v 0), .int (v 1), .int (v 2), .int (v 3), .int (v 4), .int (v 5)] := by
  have := sM_at G x j v
  simp only [mf]
  rw [this 0 (by omega), this 1 (by omega), this 2 (by omega), this 3 (by omega), this 4 (by omega), this 5 (by omega)]
def G1.snd (G : G1) (x : Nat) (a b c d e : Int32) : G1 := (G.sN (2 + x) (G.N (2 + x) + 1)).sM x (G.N (2 + x)) (v6 a b c d e 0)
theorem R1.pM {cI cR cM : ClassId} {M : Mem} {ad : Nat → Nat} {G : G1} (h : R1 cI cR cM M ad G) (x j : Nat) (hx : x < 2) (hj : j < cap x) (v : Nat → Int32) : R1 cI cR cM (mset M (ad (mb x + j)) (ob 1 [.int (v 0), .int (v 1), .int (v 2), .int (v 3), .int (v 4), .int (v 5)])) ad (G.sM x j v) := by
  have := h.pmsg x j hx hj (G' := G.sM x j v) rfl rfl rfl (fun t i hti => sM_ne G x j v t i hti)
  rw [mf_sM] at this
  exact this
end
section
set_option maxHeartbeats 4000000 in
set_option maxRecDepth 100000 in
theorem ct_Bs_lineOf {D : va_G} {l : Launch} {cI cZ cR cM : ClassId} {M : Mem} {ad : Nat → Nat} {G : G1} (h : R1 cI cR cM M ad G) (u : Int32) : Ct TT D cls (tyL cI cZ cR cM) l y_Bs_lineOf b_Bs_lineOf 2 (some (.object "BlockTargetSession$Line")) 0 0 0 0 [.ref (ad 0), .int u] M (fun rv M' => M' = M ∧ rv = some (.ref (ad (6 + 2 * lx u)))) := by
  refine ct_of "BlockTargetSession" rfl (by decide) (Nat.le_of_ble_eq_true rfl) ?_
  intro Z hl hD hnm hQ C
  subst hl
  subst hD
  show V cls 2 (rmOf 0 0 0 0) Z 0 [(0, .ref (ad 0)), (1, .int u)] [] M 0 0
  refine v_iload_n C (i := 1) d_Bs_lineOf_0 rfl rfl ?_
  refine v_if_eq C 11 d_Bs_lineOf_1 (by decide) (fun c_1 => ?_) (fun c_1 => ?_)
  · refine v_aload_n C (i := 0) d_Bs_lineOf_11 rfl rfl ?_
    refine v_get C (v := .ref (ad 8)) in_Bs h.o cl_Bs 5 (by decide) w_108 rfl rfl d_Bs_lineOf_12 ?_
    exact v_aret hQ C rfl (Or.inr ⟨_, rfl⟩) d_Bs_lineOf_15 (by omega) (by omega) ⟨rfl, by simp only [lx]; rw [if_pos c_1]⟩
  · refine v_aload_n C (i := 0) d_Bs_lineOf_4 rfl rfl ?_
    refine v_get C (v := .ref (ad 6)) in_Bs h.o cl_Bs 4 (by decide) w_107 rfl rfl d_Bs_lineOf_5 ?_
    refine v_goto C 15 d_Bs_lineOf_8 (by decide) ?_
    exact v_aret hQ C rfl (Or.inr ⟨_, rfl⟩) d_Bs_lineOf_15 (by omega) (by omega) ⟨rfl, by simp only [lx]; rw [if_neg c_1]⟩
set_option maxHeartbeats 4000000 in
set_option maxRecDepth 100000 in
theorem ct_Bs_requestAt {D : va_G} {l : Launch} {cI cZ cR cM : ClassId} {M : Mem} {ad : Nat → Nat} {G : G1} (h : R1 cI cR cM M ad G) (hn : G.N 0 ≤ 120) (x : Int32) : Ct TT D cls (tyL cI cZ cR cM) l y_Bs_requestAt b_Bs_requestAt 2 (some (.object "BlockTargetSession$Request")) 0 0 0 0 [.ref (ad 0), .int x] M (fun rv M' => M' = M ∧ (((x < 0 ∨ nI (G.N 0) ≤ x) ∧ rv = some .null) ∨ ∃ j, j < G.N 0 ∧ x = nI j ∧ rv = some (.ref (ad (30 + 2 * j))))) := by
  refine ct_of "BlockTargetSession" rfl (by decide) (Nat.le_of_ble_eq_true rfl) ?_
  intro Z hl hD hnm hQ C
  subst hl
  subst hD
  show V cls 2 (rmOf 0 0 0 0) Z 0 [(0, .ref (ad 0)), (1, .int x)] [] M 0 0
  refine v_iload_n C (i := 1) d_Bs_requestAt_0 rfl rfl ?_
  refine v_if_lt C 21 d_Bs_requestAt_1 (by decide) (fun c_1 => ?_) (fun c_1 => ?_)
  · refine v_null C d_Bs_requestAt_21 ?_
    exact v_aret hQ C rfl (Or.inl rfl) d_Bs_requestAt_22 (by omega) (by omega) ⟨rfl, Or.inl ⟨Or.inl c_1, rfl⟩⟩
  · refine v_iload_n C (i := 1) d_Bs_requestAt_4 rfl rfl ?_
    refine v_aload_n C (i := 0) d_Bs_requestAt_5 rfl rfl ?_
    refine v_get C (v := .int (nI (G.N 0))) in_Bs h.o cl_Bs 3 (by decide) w_106 rfl rfl d_Bs_requestAt_6 ?_
    refine v_icmp_ge C 21 d_Bs_requestAt_9 (by decide) (fun c_9 => ?_) (fun c_9 => ?_)
    · refine v_null C d_Bs_requestAt_21 ?_
      exact v_aret hQ C rfl (Or.inl rfl) d_Bs_requestAt_22 (by omega) (by omega) ⟨rfl, Or.inl ⟨Or.inr c_9, rfl⟩⟩
    · obtain ⟨j, hj, rfl⟩ : ∃ j : Nat, j < G.N 0 ∧ x = nI j := by
        rcases pk_ix x (n := G.N 0) (by omega) with h | h | h
        · exact absurd h c_1
        · exact absurd h c_9
        · exact h
      refine v_aload_n C (i := 0) d_Bs_requestAt_12 rfl rfl ?_
      refine v_get C (v := .ref (ad 5)) in_Bs h.o cl_Bs 2 (by decide) w_105 rfl rfl d_Bs_requestAt_13 ?_
      refine v_iload_n C (i := 1) d_Bs_requestAt_16 rfl rfl ?_
      refine v_aldq C (N := 120) (f := fun i => if i < G.N 0 then some (ad (30 + 2 * i)) else none) 2 h.rs rfl (pk_in j 120 (by omega)) (v := .ref (ad (30 + 2 * j))) (by rw [pk_cl j]; show va_rf (if j < G.N 0 then some (ad (30 + 2 * j)) else none) = _; rw [if_pos hj]; rfl) d_Bs_requestAt_17 ?_
      refine v_goto C 22 d_Bs_requestAt_18 (by decide) ?_
      exact v_aret hQ C rfl (Or.inr ⟨_, rfl⟩) d_Bs_requestAt_22 (by omega) (by omega) ⟨rfl, Or.inr ⟨j, hj, rfl, rfl⟩⟩
set_option maxHeartbeats 4000000 in
set_option maxRecDepth 100000 in
theorem ct_Bs_firstOpenRequest {D : va_G} {l : Launch} {cI cZ cR cM : ClassId} {M : Mem} {ad : Nat → Nat} {G : G1} (h : R1 cI cR cM M ad G) (hn : G.N 0 ≤ 120) : Ct TT D cls (tyL cI cZ cR cM) l y_Bs_firstOpenRequest b_Bs_firstOpenRequest 2 (some .int) 0 0 0 0 [.ref (ad 0)] M (fun rv M' => M' = M ∧ ((plc (G.T 7) 0 (G.N 0) < G.N 0 ∧ rv = some (.int (nI (plc (G.T 7) 0 (G.N 0))))) ∨ (plc (G.T 7) 0 (G.N 0) = G.N 0 ∧ rv = some (.int (-3))))) := by
  refine ct_of "BlockTargetSession" rfl (by decide) (Nat.le_of_ble_eq_true rfl) ?_
  intro Z hl hD hnm hQ C
  subst hl
  subst hD
  show V cls 2 (rmOf 0 0 0 0) Z 0 [(0, .ref (ad 0))] [] M 0 0
  refine v_iconst C (v := 0) d_Bs_firstOpenRequest_0 (by decide) ?_
  refine v_istore_n C (i := 1) (lv' := [(1, .int 0), (0, .ref (ad 0))]) d_Bs_firstOpenRequest_1 rfl (by decide) rfl ?_
  have L : ∀ (fu i : Nat), G.N 0 - i < fu → i ≤ G.N 0 → (∀ q, q < i → G.T 7 q ≠ 0) → V cls 2 (rmOf 0 0 0 0) Z 2 [(1, .int (nI i)), (0, .ref (ad 0))] [] M 0 0 := by
    intro fu
    induction fu with
    | zero => intro i hf; omega
    | succ fu ih =>
      intro i hf hi hq
      refine v_iload_n C (i := 1) d_Bs_firstOpenRequest_2 rfl rfl ?_
      refine v_aload_n C (i := 0) d_Bs_firstOpenRequest_3 rfl rfl ?_
      refine v_get C (v := .int (nI (G.N 0))) in_Bs h.o cl_Bs 3 (by decide) w_106 rfl rfl d_Bs_firstOpenRequest_4 ?_
      refine v_icmp_ge C 30 d_Bs_firstOpenRequest_7 (by decide) (fun c_7 => ?_) (fun c_7 => ?_)
      · have hi2 : i = G.N 0 := Nat.le_antisymm hi ((nI_leI (by omega) (by omega)).mp c_7)
        refine v_bipush C (v := (-3)) d_Bs_firstOpenRequest_30 (by decide) ?_
        exact v_iret hQ C rfl d_Bs_firstOpenRequest_32 (by omega) (by omega) ⟨rfl, Or.inr ⟨plc_no _ (fun q hq2 => hq q (by omega)), rfl⟩⟩
      · have hi2 : i < G.N 0 := Nat.lt_of_not_le (fun h => c_7 ((nI_leI (by omega) (by omega)).mpr h))
        refine v_aload_n C (i := 0) d_Bs_firstOpenRequest_10 rfl rfl ?_
        refine v_get C (v := .ref (ad 5)) in_Bs h.o cl_Bs 2 (by decide) w_105 rfl rfl d_Bs_firstOpenRequest_11 ?_
        refine v_iload_n C (i := 1) d_Bs_firstOpenRequest_14 rfl rfl ?_
        refine v_aldq C (N := 120) (f := fun i => if i < G.N 0 then some (ad (30 + 2 * i)) else none) 2 h.rs rfl (pk_in i 120 (by omega)) (v := .ref (ad (30 + 2 * i))) (by rw [pk_cl i]; show va_rf (if i < G.N 0 then some (ad (30 + 2 * i)) else none) = _; rw [if_pos hi2]; rfl) d_Bs_firstOpenRequest_15 ?_
        refine v_get C (v := .int ((G.T 7) i)) in_Rq (h.rq i hi2) cl_Rq 5 (by decide) w_167 rfl rfl d_Bs_firstOpenRequest_16 ?_
        refine v_if_ne C 24 d_Bs_firstOpenRequest_19 (by decide) (fun c_19 => ?_) (fun c_19 => ?_)
        · refine v_iinc C (i := 1) (j := 0) (v := nI (i + 1)) (lv' := [(1, .int (nI (i + 1))), (0, .ref (ad 0))]) d_Bs_firstOpenRequest_24 rfl (nI_1 i) (by decide) rfl ?_
          refine v_goto C 2 d_Bs_firstOpenRequest_27 (by decide) ?_
          exact ih (i + 1) (by omega) (by omega) (fun q hq2 => by
            by_cases c : q = i
            · subst c; exact c_19
            · exact hq q (by omega))
        · refine v_iload_n C (i := 1) d_Bs_firstOpenRequest_22 rfl rfl ?_
          exact v_iret hQ C rfl d_Bs_firstOpenRequest_23 (by omega) (by omega) ⟨rfl, Or.inl ⟨by rw [plc_of c_19 hq _ hi2]; exact hi2, by rw [plc_of c_19 hq _ hi2]⟩⟩
  refine V.pick (lv' := [(1, .int (nI 0)), (0, .ref (ad 0))]) [0, 1] (by rw [nI_0]; rfl) ?_
  exact L (G.N 0 + 1) 0 (by omega) (by omega) (fun q hq => absurd hq (Nat.not_lt_zero q))
set_option maxHeartbeats 4000000 in
set_option maxRecDepth 100000 in
theorem ct_Bs_requestsIn {D : va_G} {l : Launch} {cI cZ cR cM : ClassId} {M : Mem} {ad : Nat → Nat} {G : G1} (h : R1 cI cR cM M ad G) (hn : G.N 0 ≤ 120) (b : Int32) : Ct TT D cls (tyL cI cZ cR cM) l y_Bs_requestsIn b_Bs_requestsIn 4 (some .int) 0 0 0 0 [.ref (ad 0), .int b] M (fun rv M' => M' = M ∧ rv = some (.int (nI (cnt (G.T 7) b (G.N 0))))) := by
  refine ct_of "BlockTargetSession" rfl (by decide) (Nat.le_of_ble_eq_true rfl) ?_
  intro Z hl hD hnm hQ C
  subst hl
  subst hD
  show V cls 4 (rmOf 0 0 0 0) Z 0 [(0, .ref (ad 0)), (1, .int b)] [] M 0 0
  refine v_iconst C (v := 0) d_Bs_requestsIn_0 (by decide) ?_
  refine v_istore_n C (i := 2) (lv' := [(2, .int 0), (0, .ref (ad 0)), (1, .int b)]) d_Bs_requestsIn_1 rfl (by decide) rfl ?_
  refine v_iconst C (v := 0) d_Bs_requestsIn_2 (by decide) ?_
  refine v_istore_n C (i := 3) (lv' := [(3, .int 0), (2, .int 0), (0, .ref (ad 0)), (1, .int b)]) d_Bs_requestsIn_3 rfl (by decide) rfl ?_
  have L : ∀ (fu i : Nat), G.N 0 - i < fu → i ≤ G.N 0 → V cls 4 (rmOf 0 0 0 0) Z 4 [(3, .int (nI i)), (2, .int (nI (cnt (G.T 7) b i))), (0, .ref (ad 0)), (1, .int b)] [] M 0 0 := by
    intro fu
    induction fu with
    | zero => intro i hf; omega
    | succ fu ih =>
      intro i hf hi
      refine v_iload_n C (i := 3) d_Bs_requestsIn_4 rfl rfl ?_
      refine v_aload_n C (i := 0) d_Bs_requestsIn_5 rfl rfl ?_
      refine v_get C (v := .int (nI (G.N 0))) in_Bs h.o cl_Bs 3 (by decide) w_106 rfl rfl d_Bs_requestsIn_6 ?_
      refine v_icmp_ge C 34 d_Bs_requestsIn_9 (by decide) (fun c_9 => ?_) (fun c_9 => ?_)
      · have hi2 : i = G.N 0 := Nat.le_antisymm hi ((nI_leI (by omega) (by omega)).mp c_9)
        refine v_iload_n C (i := 2) d_Bs_requestsIn_34 rfl rfl ?_
        exact v_iret hQ C rfl d_Bs_requestsIn_35 (by omega) (by omega) ⟨rfl, by rw [hi2]⟩
      · have hi2 : i < G.N 0 := Nat.lt_of_not_le (fun h => c_9 ((nI_leI (by omega) (by omega)).mpr h))
        refine v_aload_n C (i := 0) d_Bs_requestsIn_12 rfl rfl ?_
        refine v_get C (v := .ref (ad 5)) in_Bs h.o cl_Bs 2 (by decide) w_105 rfl rfl d_Bs_requestsIn_13 ?_
        refine v_iload_n C (i := 3) d_Bs_requestsIn_16 rfl rfl ?_
        refine v_aldq C (N := 120) (f := fun i => if i < G.N 0 then some (ad (30 + 2 * i)) else none) 2 h.rs rfl (pk_in i 120 (by omega)) (v := .ref (ad (30 + 2 * i))) (by rw [pk_cl i]; show va_rf (if i < G.N 0 then some (ad (30 + 2 * i)) else none) = _; rw [if_pos hi2]; rfl) d_Bs_requestsIn_17 ?_
        refine v_get C (v := .int ((G.T 7) i)) in_Rq (h.rq i hi2) cl_Rq 5 (by decide) w_167 rfl rfl d_Bs_requestsIn_18 ?_
        refine v_iload_n C (i := 1) d_Bs_requestsIn_21 rfl rfl ?_
        refine v_icmp_ne C 28 d_Bs_requestsIn_22 (by decide) (fun c_22 => ?_) (fun c_22 => ?_)
        · refine v_iinc C (i := 3) (j := 0) (v := nI (i + 1)) (lv' := [(3, .int (nI (i + 1))), (2, .int (nI (cnt (G.T 7) b i))), (0, .ref (ad 0)), (1, .int b)]) d_Bs_requestsIn_28 rfl (nI_1 i) (by decide) rfl ?_
          refine v_goto C 4 d_Bs_requestsIn_31 (by decide) ?_
          refine V.pick (lv' := [(3, .int (nI (i + 1))), (2, .int (nI (cnt (G.T 7) b i))), (0, .ref (ad 0)), (1, .int b)]) [0, 1, 2, 3] rfl ?_
          have e : cnt (G.T 7) b (i + 1) = (cnt (G.T 7) b i) := by rw [cnt, if_neg c_22, Nat.add_zero]
          have k9 := ih (i + 1) (by omega) (by omega)
          rw [e] at k9
          exact k9
        · refine v_iinc C (i := 2) (j := 1) (v := nI (cnt (G.T 7) b i + 1)) (lv' := [(2, .int (nI (cnt (G.T 7) b i + 1))), (3, .int (nI i)), (0, .ref (ad 0)), (1, .int b)]) d_Bs_requestsIn_25 rfl (nI_1 _) (by decide) rfl ?_
          refine v_iinc C (i := 3) (j := 1) (v := nI (i + 1)) (lv' := [(3, .int (nI (i + 1))), (2, .int (nI (cnt (G.T 7) b i + 1))), (0, .ref (ad 0)), (1, .int b)]) d_Bs_requestsIn_28 rfl (nI_1 i) (by decide) rfl ?_
          refine v_goto C 4 d_Bs_requestsIn_31 (by decide) ?_
          refine V.pick (lv' := [(3, .int (nI (i + 1))), (2, .int (nI (cnt (G.T 7) b i + 1))), (0, .ref (ad 0)), (1, .int b)]) [0, 1, 2, 3] rfl ?_
          have e : cnt (G.T 7) b (i + 1) = (cnt (G.T 7) b i + 1) := by rw [cnt, if_pos c_22]
          have k9 := ih (i + 1) (by omega) (by omega)
          rw [e] at k9
          exact k9
  refine V.pick (lv' := [(3, .int (nI 0)), (2, .int (nI (cnt (G.T 7) b 0))), (0, .ref (ad 0)), (1, .int b)]) [0, 1, 2, 3] (by rw [cnt, nI_0]; rfl) ?_
  exact L (G.N 0 + 1) 0 (by omega) (by omega)
set_option maxHeartbeats 4000000 in
set_option maxRecDepth 100000 in
theorem ct_Bs_beginSession {D : va_G} {l : Launch} {cI cZ cR cM : ClassId} {M : Mem} {ad : Nat → Nat} {G : G1} (h : R1 cI cR cM M ad G)  : Ct TT D cls (tyL cI cZ cR cM) l y_Bs_beginSession b_Bs_beginSession 1 none 0 0 0 0 [.ref (ad 0)] M (fun rv M' => rv = none ∧ R1 cI cR cM M' ad G.bg) := by
  refine ct_of "BlockTargetSession" rfl (by decide) (Nat.le_of_ble_eq_true rfl) ?_
  intro Z hl hD hnm hQ C
  subst hl
  subst hD
  show V cls 1 (rmOf 0 0 0 0) Z 0 [(0, .ref (ad 0))] [] M 0 0
  refine v_aload_n C (i := 0) d_Bs_beginSession_0 rfl rfl ?_
  refine v_iconst C (v := 1) d_Bs_beginSession_1 (by decide) ?_
  refine v_put C in_Bs t_Bs to_Bs nm_Bs h.o cl_Bs 6 (by decide) (fs' := [.int (G.I 0), .ref (ad 1), .ref (ad 5), .int (nI (G.N 0)), .ref (ad 6), .ref (ad 8), .int 1, .int (G.I 2), .int (G.I 3), .int (G.I 4), .int (G.I 5)]) w_109 rfl rfl rfl rfl (Nat.le_of_ble_eq_true rfl) rfl d_Bs_beginSession_2 ?_
  have h : R1 cI cR cM (mset M (ad 0) (ob 4 [.int (G.I 0), .ref (ad 1), .ref (ad 5), .int (nI (G.N 0)), .ref (ad 6), .ref (ad 8), .int 1, .int (G.I 2), .int (G.I 3), .int (G.I 4), .int (G.I 5)])) ad (G.sI 1 1) := h.po 1 1
  revert h
  generalize mset M (ad 0) (ob 4 [.int (G.I 0), .ref (ad 1), .ref (ad 5), .int (nI (G.N 0)), .ref (ad 6), .ref (ad 8), .int 1, .int (G.I 2), .int (G.I 3), .int (G.I 4), .int (G.I 5)]) = M
  intro h
  refine v_aload_n C (i := 0) d_Bs_beginSession_5 rfl rfl ?_
  refine v_dup C d_Bs_beginSession_6 rfl ?_
  refine v_get C (v := .int (G.I 2)) in_Bs h.o cl_Bs 7 (by decide) w_110 rfl rfl d_Bs_beginSession_7 ?_
  refine v_iconst C (v := 1) d_Bs_beginSession_10 (by decide) ?_
  refine v_iadd C d_Bs_beginSession_11 ?_
  refine v_put C in_Bs t_Bs to_Bs nm_Bs h.o cl_Bs 7 (by decide) (fs' := [.int (G.I 0), .ref (ad 1), .ref (ad 5), .int (nI (G.N 0)), .ref (ad 6), .ref (ad 8), .int 1, .int ((G.I 2) + 1), .int (G.I 3), .int (G.I 4), .int (G.I 5)]) w_110 rfl rfl rfl rfl (Nat.le_of_ble_eq_true rfl) rfl d_Bs_beginSession_12 ?_
  have h : R1 cI cR cM (mset M (ad 0) (ob 4 [.int (G.I 0), .ref (ad 1), .ref (ad 5), .int (nI (G.N 0)), .ref (ad 6), .ref (ad 8), .int 1, .int ((G.I 2) + 1), .int (G.I 3), .int (G.I 4), .int (G.I 5)])) ad ((G.sI 1 1).sI 2 ((G.I 2) + 1)) := h.po 2 ((G.I 2) + 1)
  revert h
  generalize mset M (ad 0) (ob 4 [.int (G.I 0), .ref (ad 1), .ref (ad 5), .int (nI (G.N 0)), .ref (ad 6), .ref (ad 8), .int 1, .int ((G.I 2) + 1), .int (G.I 3), .int (G.I 4), .int (G.I 5)]) = M
  intro h
  refine v_aload_n C (i := 0) d_Bs_beginSession_15 rfl rfl ?_
  refine v_iconst C (v := 0) d_Bs_beginSession_16 (by decide) ?_
  refine v_put C in_Bs t_Bs to_Bs nm_Bs h.o cl_Bs 8 (by decide) (fs' := [.int (G.I 0), .ref (ad 1), .ref (ad 5), .int (nI (G.N 0)), .ref (ad 6), .ref (ad 8), .int 1, .int ((G.I 2) + 1), .int 0, .int (G.I 4), .int (G.I 5)]) w_111 rfl rfl rfl rfl (Nat.le_of_ble_eq_true rfl) rfl d_Bs_beginSession_17 ?_
  have h : R1 cI cR cM (mset M (ad 0) (ob 4 [.int (G.I 0), .ref (ad 1), .ref (ad 5), .int (nI (G.N 0)), .ref (ad 6), .ref (ad 8), .int 1, .int ((G.I 2) + 1), .int 0, .int (G.I 4), .int (G.I 5)])) ad (((G.sI 1 1).sI 2 ((G.I 2) + 1)).sI 3 0) := h.po 3 0
  revert h
  generalize mset M (ad 0) (ob 4 [.int (G.I 0), .ref (ad 1), .ref (ad 5), .int (nI (G.N 0)), .ref (ad 6), .ref (ad 8), .int 1, .int ((G.I 2) + 1), .int 0, .int (G.I 4), .int (G.I 5)]) = M
  intro h
  refine v_aload_n C (i := 0) d_Bs_beginSession_20 rfl rfl ?_
  refine v_iconst C (v := 0) d_Bs_beginSession_21 (by decide) ?_
  refine v_put C in_Bs t_Bs to_Bs nm_Bs h.o cl_Bs 9 (by decide) (fs' := [.int (G.I 0), .ref (ad 1), .ref (ad 5), .int (nI (G.N 0)), .ref (ad 6), .ref (ad 8), .int 1, .int ((G.I 2) + 1), .int 0, .int 0, .int (G.I 5)]) w_112 rfl rfl rfl rfl (Nat.le_of_ble_eq_true rfl) rfl d_Bs_beginSession_22 ?_
  have h : R1 cI cR cM (mset M (ad 0) (ob 4 [.int (G.I 0), .ref (ad 1), .ref (ad 5), .int (nI (G.N 0)), .ref (ad 6), .ref (ad 8), .int 1, .int ((G.I 2) + 1), .int 0, .int 0, .int (G.I 5)])) ad ((((G.sI 1 1).sI 2 ((G.I 2) + 1)).sI 3 0).sI 4 0) := h.po 4 0
  revert h
  generalize mset M (ad 0) (ob 4 [.int (G.I 0), .ref (ad 1), .ref (ad 5), .int (nI (G.N 0)), .ref (ad 6), .ref (ad 8), .int 1, .int ((G.I 2) + 1), .int 0, .int 0, .int (G.I 5)]) = M
  intro h
  refine v_aload_n C (i := 0) d_Bs_beginSession_25 rfl rfl ?_
  refine v_aload_n C (i := 0) d_Bs_beginSession_26 rfl rfl ?_
  refine v_get C (v := .int (G.I 0)) in_Bs h.o cl_Bs 0 (by decide) w_103 rfl rfl d_Bs_beginSession_27 ?_
  refine v_put C in_Bs t_Bs to_Bs nm_Bs h.o cl_Bs 10 (by decide) (fs' := [.int (G.I 0), .ref (ad 1), .ref (ad 5), .int (nI (G.N 0)), .ref (ad 6), .ref (ad 8), .int 1, .int ((G.I 2) + 1), .int 0, .int 0, .int (G.I 0)]) w_113 rfl rfl rfl rfl (Nat.le_of_ble_eq_true rfl) rfl d_Bs_beginSession_30 ?_
  have h : R1 cI cR cM (mset M (ad 0) (ob 4 [.int (G.I 0), .ref (ad 1), .ref (ad 5), .int (nI (G.N 0)), .ref (ad 6), .ref (ad 8), .int 1, .int ((G.I 2) + 1), .int 0, .int 0, .int (G.I 0)])) ad (((((G.sI 1 1).sI 2 ((G.I 2) + 1)).sI 3 0).sI 4 0).sI 5 (G.I 0)) := h.po 5 (G.I 0)
  revert h
  generalize mset M (ad 0) (ob 4 [.int (G.I 0), .ref (ad 1), .ref (ad 5), .int (nI (G.N 0)), .ref (ad 6), .ref (ad 8), .int 1, .int ((G.I 2) + 1), .int 0, .int 0, .int (G.I 0)]) = M
  intro h
  exact v_vret hQ C rfl d_Bs_beginSession_33 (by omega) (by omega) ⟨rfl, h⟩
set_option maxHeartbeats 4000000 in
set_option maxRecDepth 100000 in
theorem ct_Bs_breakSession {D : va_G} {l : Launch} {cI cZ cR cM : ClassId} {M : Mem} {ad : Nat → Nat} {G : G1} (h : R1 cI cR cM M ad G) (hn : G.N 0 ≤ 120) (hrl : ∀ j, j < G.N 0 → rlen G j ≤ 200) : Ct TT D cls (tyL cI cZ cR cM) l y_Bs_breakSession b_Bs_breakSession 2 none 2 43 0 0 [.ref (ad 0)] M (fun rv M' => rv = none ∧ ∃ rr, (∀ j, G.T 7 j ≠ 1 → rr j = G.R j) ∧ R1 cI cR cM M' ad (G.bk rr)) := by
  refine ct_of "BlockTargetSession" rfl (by decide) (Nat.le_of_ble_eq_true rfl) ?_
  intro Z hl hD hnm hQ C
  subst hl
  subst hD
  show V cls 2 (rmOf 2 43 0 0) Z 0 [(0, .ref (ad 0))] [] M 0 0
  refine v_aload_n C (i := 0) d_Bs_breakSession_0 rfl rfl ?_
  refine v_get C (v := .ref (ad 6)) in_Bs h.o cl_Bs 4 (by decide) w_107 rfl rfl d_Bs_breakSession_1 ?_
  refine v_callV C (As := []) (rest := []) (h.ln 0 (by decide)) cl_Ln rfl w_226 w_227 (ct_Ln_clear (h.ln 0 (by decide))) (Nat.le_of_ble_eq_true rfl) (Nat.le_of_ble_eq_true rfl) w_228 w_2 hy_Ln_clear w_225 rfl (Nat.le_of_ble_eq_true rfl) ⟨by decide, by decide⟩ d_Bs_breakSession_4 (fun rv M hp => ?_)
  obtain ⟨rfl, rfl⟩ := hp
  have h : R1 cI cR cM (mset M (ad 6) (ob 0 [.ref (ad 7), .int (nI 0)])) ad (G.sN 2 0) := h.psz 0 0 (by decide)
  revert h
  generalize mset M (ad 6) (ob 0 [.ref (ad 7), .int (nI 0)]) = M
  intro h
  refine V.eqst (st' := []) rfl (V.cs (k' := 0) (n' := 0) rfl rfl ?_)
  refine v_aload_n C (i := 0) d_Bs_breakSession_7 rfl rfl ?_
  refine v_get C (v := .ref (ad 8)) in_Bs h.o cl_Bs 5 (by decide) w_108 rfl rfl d_Bs_breakSession_8 ?_
  refine v_callV C (As := []) (rest := []) (h.ln 1 (by decide)) cl_Ln rfl w_226 w_227 (ct_Ln_clear (h.ln 1 (by decide))) (Nat.le_of_ble_eq_true rfl) (Nat.le_of_ble_eq_true rfl) w_228 w_2 hy_Ln_clear w_225 rfl (Nat.le_of_ble_eq_true rfl) ⟨by decide, by decide⟩ d_Bs_breakSession_11 (fun rv M hp => ?_)
  obtain ⟨rfl, rfl⟩ := hp
  have h : R1 cI cR cM (mset M (ad 8) (ob 0 [.ref (ad 9), .int (nI 0)])) ad ((G.sN 2 0).sN 3 0) := h.psz 1 0 (by decide)
  revert h
  generalize mset M (ad 8) (ob 0 [.ref (ad 9), .int (nI 0)]) = M
  intro h
  refine V.eqst (st' := []) rfl (V.cs (k' := 0) (n' := 0) rfl rfl ?_)
  refine v_aload_n C (i := 0) d_Bs_breakSession_14 rfl rfl ?_
  refine v_iconst C (v := 0) d_Bs_breakSession_15 (by decide) ?_
  refine v_put C in_Bs t_Bs to_Bs nm_Bs h.o cl_Bs 6 (by decide) (fs' := [.int (G.I 0), .ref (ad 1), .ref (ad 5), .int (nI (G.N 0)), .ref (ad 6), .ref (ad 8), .int 0, .int (G.I 2), .int (G.I 3), .int (G.I 4), .int (G.I 5)]) w_109 rfl rfl rfl rfl (Nat.le_of_ble_eq_true rfl) rfl d_Bs_breakSession_16 ?_
  have h : R1 cI cR cM (mset M (ad 0) (ob 4 [.int (G.I 0), .ref (ad 1), .ref (ad 5), .int (nI (G.N 0)), .ref (ad 6), .ref (ad 8), .int 0, .int (G.I 2), .int (G.I 3), .int (G.I 4), .int (G.I 5)])) ad (((G.sN 2 0).sN 3 0).sI 1 0) := h.po 1 0
  revert h
  generalize mset M (ad 0) (ob 4 [.int (G.I 0), .ref (ad 1), .ref (ad 5), .int (nI (G.N 0)), .ref (ad 6), .ref (ad 8), .int 0, .int (G.I 2), .int (G.I 3), .int (G.I 4), .int (G.I 5)]) = M
  intro h
  refine v_aload_n C (i := 0) d_Bs_breakSession_19 rfl rfl ?_
  refine v_iconst C (v := 0) d_Bs_breakSession_20 (by decide) ?_
  refine v_put C in_Bs t_Bs to_Bs nm_Bs h.o cl_Bs 8 (by decide) (fs' := [.int (G.I 0), .ref (ad 1), .ref (ad 5), .int (nI (G.N 0)), .ref (ad 6), .ref (ad 8), .int 0, .int (G.I 2), .int 0, .int (G.I 4), .int (G.I 5)]) w_111 rfl rfl rfl rfl (Nat.le_of_ble_eq_true rfl) rfl d_Bs_breakSession_21 ?_
  have h : R1 cI cR cM (mset M (ad 0) (ob 4 [.int (G.I 0), .ref (ad 1), .ref (ad 5), .int (nI (G.N 0)), .ref (ad 6), .ref (ad 8), .int 0, .int (G.I 2), .int 0, .int (G.I 4), .int (G.I 5)])) ad ((((G.sN 2 0).sN 3 0).sI 1 0).sI 3 0) := h.po 3 0
  revert h
  generalize mset M (ad 0) (ob 4 [.int (G.I 0), .ref (ad 1), .ref (ad 5), .int (nI (G.N 0)), .ref (ad 6), .ref (ad 8), .int 0, .int (G.I 2), .int 0, .int (G.I 4), .int (G.I 5)]) = M
  intro h
  refine v_aload_n C (i := 0) d_Bs_breakSession_24 rfl rfl ?_
  refine v_iconst C (v := 0) d_Bs_breakSession_25 (by decide) ?_
  refine v_put C in_Bs t_Bs to_Bs nm_Bs h.o cl_Bs 9 (by decide) (fs' := [.int (G.I 0), .ref (ad 1), .ref (ad 5), .int (nI (G.N 0)), .ref (ad 6), .ref (ad 8), .int 0, .int (G.I 2), .int 0, .int 0, .int (G.I 5)]) w_112 rfl rfl rfl rfl (Nat.le_of_ble_eq_true rfl) rfl d_Bs_breakSession_26 ?_
  have h : R1 cI cR cM (mset M (ad 0) (ob 4 [.int (G.I 0), .ref (ad 1), .ref (ad 5), .int (nI (G.N 0)), .ref (ad 6), .ref (ad 8), .int 0, .int (G.I 2), .int 0, .int 0, .int (G.I 5)])) ad (((((G.sN 2 0).sN 3 0).sI 1 0).sI 3 0).sI 4 0) := h.po 4 0
  revert h
  generalize mset M (ad 0) (ob 4 [.int (G.I 0), .ref (ad 1), .ref (ad 5), .int (nI (G.N 0)), .ref (ad 6), .ref (ad 8), .int 0, .int (G.I 2), .int 0, .int 0, .int (G.I 5)]) = M
  intro h
  refine v_aload_n C (i := 0) d_Bs_breakSession_29 rfl rfl ?_
  refine v_iconst C (v := 0) d_Bs_breakSession_30 (by decide) ?_
  refine v_put C in_Bs t_Bs to_Bs nm_Bs h.o cl_Bs 10 (by decide) (fs' := [.int (G.I 0), .ref (ad 1), .ref (ad 5), .int (nI (G.N 0)), .ref (ad 6), .ref (ad 8), .int 0, .int (G.I 2), .int 0, .int 0, .int 0]) w_113 rfl rfl rfl rfl (Nat.le_of_ble_eq_true rfl) rfl d_Bs_breakSession_31 ?_
  have h : R1 cI cR cM (mset M (ad 0) (ob 4 [.int (G.I 0), .ref (ad 1), .ref (ad 5), .int (nI (G.N 0)), .ref (ad 6), .ref (ad 8), .int 0, .int (G.I 2), .int 0, .int 0, .int 0])) ad ((((((G.sN 2 0).sN 3 0).sI 1 0).sI 3 0).sI 4 0).sI 5 0) := h.po 5 0
  revert h
  generalize mset M (ad 0) (ob 4 [.int (G.I 0), .ref (ad 1), .ref (ad 5), .int (nI (G.N 0)), .ref (ad 6), .ref (ad 8), .int 0, .int (G.I 2), .int 0, .int 0, .int 0]) = M
  intro h
  refine v_iconst C (v := 0) d_Bs_breakSession_34 (by decide) ?_
  refine v_istore_n C (i := 1) (lv' := [(1, .int 0), (0, .ref (ad 0))]) d_Bs_breakSession_35 rfl (by decide) rfl ?_
  obtain ⟨Gb, hGb⟩ : ∃ Gb, Gb = G.cl2 := ⟨_, rfl⟩
  have h : R1 cI cR cM M ad Gb := by rw [hGb]; exact h
  have b0 : Gb.N 0 = G.N 0 := by rw [hGb]; rfl
  have b7 : Gb.T 7 = G.T 7 := by rw [hGb]; rfl
  have bR : Gb.R = G.R := by rw [hGb]; rfl
  have bl : ∀ j, rlen Gb j = rlen G j := by intro j; rw [hGb]; rfl
  have L : ∀ (fu i : Nat) (M : Mem) (rr : Nat → Nat → Int32), G.N 0 - i < fu → i ≤ G.N 0 → (∀ j, G.T 7 j ≠ 1 → rr j = G.R j) → R1 cI cR cM M ad ((Gb.sT 7 (rop (G.T 7) i)).sRR rr) → V cls 2 (rmOf 2 43 0 0) Z 36 [(1, .int (nI i)), (0, .ref (ad 0))] [] M 0 0 := by
    intro fu
    induction fu with
    | zero => intro i M rr hf; omega
    | succ fu ih =>
      intro i M rr hf hi hrr h
      refine v_iload_n C (i := 1) d_Bs_breakSession_36 rfl rfl ?_
      refine v_aload_n C (i := 0) d_Bs_breakSession_37 rfl rfl ?_
      refine v_get C (v := .int (nI (Gb.N 0))) in_Bs h.o cl_Bs 3 (by decide) w_106 rfl rfl d_Bs_breakSession_38 ?_
      refine v_icmp_ge C 72 d_Bs_breakSession_41 (by decide) (fun c_41 => ?_) (fun c_41 => ?_)
      · have hi2 : i = G.N 0 := Nat.le_antisymm hi ((nI_leI (by omega) (by omega)).mp (by rw [b0] at c_41; exact c_41))
        exact v_vret hQ C rfl d_Bs_breakSession_72 (by omega) (by omega) ⟨rfl, rr, hrr, by rw [hi2, hGb] at h; exact h⟩
      · have hi2 : i < G.N 0 := Nat.lt_of_not_le (fun z => c_41 (by rw [b0]; exact (nI_leI (by omega) (by omega)).mpr z))
        have hi3 : i < Gb.N 0 := by omega
        refine v_aload_n C (i := 0) d_Bs_breakSession_44 rfl rfl ?_
        refine v_get C (v := .ref (ad 5)) in_Bs h.o cl_Bs 2 (by decide) w_105 rfl rfl d_Bs_breakSession_45 ?_
        refine v_iload_n C (i := 1) d_Bs_breakSession_48 rfl rfl ?_
        refine v_aldq C (N := 120) (f := fun i => if i < Gb.N 0 then some (ad (30 + 2 * i)) else none) 2 h.rs rfl (pk_in i 120 (by omega)) (v := .ref (ad (30 + 2 * i))) (by rw [pk_cl i]; show va_rf (if i < Gb.N 0 then some (ad (30 + 2 * i)) else none) = _; rw [if_pos hi3]; rfl) d_Bs_breakSession_49 ?_
        refine v_get C (v := .int ((rop (G.T 7) i) i)) in_Rq (h.rq i hi3) cl_Rq 5 (by decide) w_167 rfl rfl d_Bs_breakSession_50 ?_
        refine v_iconst C (v := 1) d_Bs_breakSession_53 (by decide) ?_
        refine v_icmp_ne C 66 d_Bs_breakSession_54 (by decide) (fun c_54 => ?_) (fun c_54 => ?_)
        · rw [rop_at] at c_54
          refine v_iinc C (i := 1) (j := 0) (v := nI (i + 1)) (lv' := [(1, .int (nI (i + 1))), (0, .ref (ad 0))]) d_Bs_breakSession_66 rfl (nI_1 i) (by decide) rfl ?_
          refine v_goto C 36 d_Bs_breakSession_69 (by decide) ?_
          exact ih (i + 1) M rr (by omega) (by omega) hrr (by rw [← rop_f _ _ c_54]; exact h)
        · rw [rop_at] at c_54
          refine v_aload_n C (i := 0) d_Bs_breakSession_57 rfl rfl ?_
          refine v_get C (v := .ref (ad 5)) in_Bs h.o cl_Bs 2 (by decide) w_105 rfl rfl d_Bs_breakSession_58 ?_
          refine v_iload_n C (i := 1) d_Bs_breakSession_61 rfl rfl ?_
          refine v_aldq C (N := 120) (f := fun i => if i < Gb.N 0 then some (ad (30 + 2 * i)) else none) 2 h.rs rfl (pk_in i 120 (by omega)) (v := .ref (ad (30 + 2 * i))) (by rw [pk_cl i]; show va_rf (if i < Gb.N 0 then some (ad (30 + 2 * i)) else none) = _; rw [if_pos hi3]; rfl) d_Bs_breakSession_62 ?_
          refine v_callV C (As := []) (rest := []) (h.rq i hi3) cl_Rq rfl w_230 w_231 (ct_Rq_reopen (k0 := Gb.T 3 i) (k1 := Gb.T 4 i) (k2 := Gb.T 5 i) (k3 := Gb.T 6 i) (k5 := rop (G.T 7) i i) (N := rlen Gb i) (f := rr i) (h.rq i hi3) (h.rr i hi3) (by rw [bl]; exact hrl i hi2)) (Nat.le_of_ble_eq_true rfl) (Nat.le_of_ble_eq_true rfl) w_232 w_7 hy_Rq_reopen w_229 rfl (Nat.le_of_ble_eq_true rfl) ⟨by decide, by decide⟩ d_Bs_breakSession_63 (fun rv M hp => ?_)
          obtain ⟨rfl, f', rfl, hf'⟩ := hp
          have h := (h.preq i hi3 0).prr i hi3 f'
          have e7 : ((Gb.sT 7 (rop (G.T 7) i)).sRR rr).sT 7 (upd (rop (G.T 7) i) i 0) = (Gb.sT 7 (rop (G.T 7) (i + 1))).sRR rr := by rw [G1.sRR_sT, rop_t _ _ c_54]
          have h : R1 cI cR cM (mset (mset M (ad (30 + 2 * i)) (ob 2 [.int (Gb.T 3 i), .int (Gb.T 4 i), .int (Gb.T 5 i), .int (Gb.T 6 i), .ref (ad (31 + 2 * i)), .int 0])) (ad (31 + 2 * i)) (aI cI (rlen Gb i) f')) ad ((Gb.sT 7 (rop (G.T 7) (i + 1))).sRR (va_up rr i f')) := by
            have h9 : R1 cI cR cM _ ad ((((Gb.sT 7 (rop (G.T 7) i)).sRR rr).sT 7 (upd (rop (G.T 7) i) i 0)).sR i f') := h
            rw [e7] at h9
            exact h9
          revert h
          generalize mset (mset M (ad (30 + 2 * i)) (ob 2 [.int (Gb.T 3 i), .int (Gb.T 4 i), .int (Gb.T 5 i), .int (Gb.T 6 i), .ref (ad (31 + 2 * i)), .int 0])) (ad (31 + 2 * i)) (aI cI (rlen Gb i) f') = M
          intro h
          refine V.eqst (st' := []) rfl (V.cs (k' := 0) (n' := 0) rfl rfl ?_)
          refine v_iinc C (i := 1) (j := 0) (v := nI (i + 1)) (lv' := [(1, .int (nI (i + 1))), (0, .ref (ad 0))]) d_Bs_breakSession_66 rfl (nI_1 i) (by decide) rfl ?_
          refine v_goto C 36 d_Bs_breakSession_69 (by decide) ?_
          exact ih (i + 1) M (va_up rr i f') (by omega) (by omega) (fun j hj => by
            rw [va_up_ne _ _ (fun z => hj (by rw [z]; exact c_54))]; exact hrr j hj) h
  refine V.pick (lv' := [(1, .int (nI 0)), (0, .ref (ad 0))]) [0, 1] (by rw [nI_0]; rfl) ?_
  refine L (G.N 0 + 1) 0 M G.R (by omega) (by omega) (fun j _ => rfl) ?_
  rw [rop_0, ← b7, G1.sT_id, ← bR]
  exact h
end
section
/-! pure: the target's work in the class -/
theorem wbn_N (G : G1) (k : Nat) (hk : k ≠ 1) : ∀ n, (G.wbn n).N k = G.N k
  | 0 => rfl
  | n + 1 => by
    show (G.wbn n).wb.N k = _
    rw [wb_N _ _ hk, wbn_N G k hk n]
theorem wbn_I (G : G1) : ∀ n, (G.wbn n).I = G.I
  | 0 => rfl
  | n + 1 => by
    show (G.wbn n).wb.I = _
    rw [wb_I, wbn_I G n]
theorem wbn_T (G : G1) (t : Nat) (ht : 3 ≤ t) : ∀ n, (G.wbn n).T t = G.T t
  | 0 => rfl
  | n + 1 => by
    show (G.wbn n).wb.T t = _
    rw [wb_T _ _ ht, wbn_T G t ht n]
theorem wbn_R (G : G1) : ∀ n, (G.wbn n).R = G.R
  | 0 => rfl
  | n + 1 => by
    show (G.wbn n).wb.R = _
    rw [wb_R, wbn_R G n]
theorem snd_N (G : G1) (x : Nat) (a b c d e : Int32) (k : Nat) : (G.snd x a b c d e).N k = if k = 2 + x then G.N k + 1 else G.N k := by
  show va_up G.1 (2 + x) (G.N (2 + x) + 1) k = _
  by_cases h : k = 2 + x
  · subst h; rw [va_up_self, if_pos rfl]
  · rw [va_up_ne _ _ h, if_neg h]
theorem snd_I (G : G1) (x : Nat) (a b c d e : Int32) : (G.snd x a b c d e).I = G.I := rfl
theorem snd_R (G : G1) (x : Nat) (a b c d e : Int32) : (G.snd x a b c d e).R = G.R := rfl
theorem snd_T (G : G1) (x : Nat) (a b c d e : Int32) (t : Nat) (ht : t < 10) : (G.snd x a b c d e).T t = G.T t := sM_low _ _ _ _ _ ht
theorem snd_pv (G : G1) (x : Nat) (hx : x < 2) (a b c d e : Int32) (k : Nat) : (G.snd x a b c d e).pv k = G.pv k := by
  have e1 : (G.snd x a b c d e).N 1 = G.N 1 := by rw [snd_N, if_neg (by omega)]
  unfold G1.pv
  rw [e1, snd_T _ _ _ _ _ _ _ 0 (by omega), snd_T _ _ _ _ _ _ _ 1 (by omega), snd_T _ _ _ _ _ _ _ 2 (by omega)]
theorem snd_cOK {G : G1} (x : Nat) (hx : x < 2) (a b c d e : Int32) (h : cOK G) : cOK (G.snd x a b c d e) := by
  refine ⟨by rw [snd_N, if_neg (by omega)]; exact h.1, by rw [snd_N, snd_N, if_neg (by omega), if_neg (by omega)]; exact h.2.1, fun j hj => ?_⟩
  rw [snd_N, if_neg (by omega)] at hj
  rw [snd_T _ _ _ _ _ _ _ 1 (by omega)]
  exact h.2.2 j hj
def G1.fin (G : G1) (q : Int32) : G1 := (G.sI 4 (G.I 4 + 1)).snd 1 q 4 0 0 (G.I 4 + 1 + G.I 0)
def G1.rdn (G : G1) (q : Int32) (f : Nat) : Nat → G1
  | 0 => G
  | k + 1 => (G.rdn q f k).snd 1 q 3 (nI k) (G.pv (f + k)) (G.I 4 + G.I 0)
theorem rdn_N (G : G1) (q : Int32) (f t : Nat) : ∀ k, (G.rdn q f k).N t = if t = 3 then G.N 3 + k else G.N t
  | 0 => by
    show G.N t = _
    split
    · rename_i h; rw [h]; rfl
    · rfl
  | k + 1 => by
    show ((G.rdn q f k).snd 1 q 3 _ _ _).N t = _
    rw [snd_N, rdn_N G q f t k]
    by_cases h : t = 3
    · subst h; simp; omega
    · rw [if_neg (by omega), if_neg h, if_neg h]
theorem rdn_I (G : G1) (q : Int32) (f : Nat) : ∀ k, (G.rdn q f k).I = G.I
  | 0 => rfl
  | k + 1 => rdn_I G q f k
theorem rdn_R (G : G1) (q : Int32) (f : Nat) : ∀ k, (G.rdn q f k).R = G.R
  | 0 => rfl
  | k + 1 => rdn_R G q f k
theorem rdn_T (G : G1) (q : Int32) (f t : Nat) (ht : t < 10) : ∀ k, (G.rdn q f k).T t = G.T t
  | 0 => rfl
  | k + 1 => by
    show ((G.rdn q f k).snd 1 q 3 _ _ _).T t = _
    rw [snd_T _ _ _ _ _ _ _ _ ht, rdn_T G q f t ht k]
theorem rdn_pv (G : G1) (q : Int32) (f b : Nat) : ∀ k, (G.rdn q f k).pv b = G.pv b
  | 0 => rfl
  | k + 1 => by
    show ((G.rdn q f k).snd 1 q 3 _ _ _).pv b = _
    rw [snd_pv _ _ (by omega), rdn_pv G q f b k]
theorem rdn_cOK {G : G1} (q : Int32) (f : Nat) (h : cOK G) : ∀ k, cOK (G.rdn q f k)
  | 0 => h
  | k + 1 => snd_cOK 1 (by omega) _ _ _ _ _ (rdn_cOK q f h k)
theorem pt_N (G : G1) (b v : Int32) (k : Nat) (hk : k ≠ 1) : (G.pt b v).N k = G.N k := by
  unfold G1.pt
  split
  · rfl
  · split
    · exact va_up_ne _ _ hk
    · rw [wb_N _ _ hk]; exact va_up_ne _ _ hk
theorem pt_I (G : G1) (b v : Int32) : (G.pt b v).I = G.I := by
  unfold G1.pt
  split
  · rfl
  · split
    · rfl
    · rw [wb_I]; rfl
theorem pt_R (G : G1) (b v : Int32) : (G.pt b v).R = G.R := by
  unfold G1.pt
  split
  · rfl
  · split
    · rfl
    · rw [wb_R]; rfl
theorem pt_T (G : G1) (b v : Int32) (t : Nat) (ht : 3 ≤ t) : (G.pt b v).T t = G.T t := by
  unfold G1.pt
  split
  · exact va_up_ne _ _ (by omega)
  · split
    · show va_up (va_up G.2.2.1 1 _) 2 _ t = _
      rw [va_up_ne _ _ (by omega), va_up_ne _ _ (by omega)]
    · rw [wb_T _ _ ht]
      show va_up (va_up G.2.2.1 1 _) 2 _ t = _
      rw [va_up_ne _ _ (by omega), va_up_ne _ _ (by omega)]
theorem pt_cOK {G : G1} (b : Nat) (hb : b < 16) (v : Int32) (h : cOK G) (h2 : G.N 1 ≤ G.N 4) : cOK (G.pt (nI b) v) ∧ (G.pt (nI b) v).N 1 ≤ (G.pt (nI b) v).N 4 := by
  have key : cOK (((G.sT 1 (upd (G.T 1) (G.N 1) (nI b))).sT 2 (upd (G.T 2) (G.N 1) v)).sN 1 (G.N 1 + 1)) := by
    refine ⟨h.1, (by show G.N 1 + 1 ≤ G.N 4 + 1; omega), fun j hj => ?_⟩
    show ∃ b_1, b_1 < 16 ∧ upd (G.T 1) (G.N 1) (nI b) j = nI b_1
    by_cases c : j = G.N 1
    · subst c; exact ⟨b, hb, pk_us⟩
    · rw [pk_un c]; exact h.2.2 j (by have : j < G.N 1 + 1 := hj; omega)
  unfold G1.pt
  split
  · exact ⟨⟨h.1, h.2.1, h.2.2⟩, h2⟩
  · split
    · rename_i h3
      exact ⟨key, h3⟩
    · refine ⟨wb_cOK key, ?_⟩
      rw [wb_N1, wb_N _ 4 (by decide)]
      show G.N 1 + 1 - 1 ≤ G.N 4
      omega
def G1.ptn (G : G1) (f : Nat) (v : Int32) : Nat → G1
  | 0 => G
  | k + 1 => (G.ptn f v k).pt (nI (f + k)) (v + nI k)
theorem ptn_N (G : G1) (f : Nat) (v : Int32) (t : Nat) (ht : t ≠ 1) : ∀ k, (G.ptn f v k).N t = G.N t
  | 0 => rfl
  | k + 1 => by
    show ((G.ptn f v k).pt _ _).N t = _
    rw [pt_N _ _ _ _ ht, ptn_N G f v t ht k]
theorem ptn_I (G : G1) (f : Nat) (v : Int32) : ∀ k, (G.ptn f v k).I = G.I
  | 0 => rfl
  | k + 1 => by
    show ((G.ptn f v k).pt _ _).I = _
    rw [pt_I, ptn_I G f v k]
theorem ptn_R (G : G1) (f : Nat) (v : Int32) : ∀ k, (G.ptn f v k).R = G.R
  | 0 => rfl
  | k + 1 => by
    show ((G.ptn f v k).pt _ _).R = _
    rw [pt_R, ptn_R G f v k]
theorem ptn_T (G : G1) (f : Nat) (v : Int32) (t : Nat) (ht : 3 ≤ t) : ∀ k, (G.ptn f v k).T t = G.T t
  | 0 => rfl
  | k + 1 => by
    show ((G.ptn f v k).pt _ _).T t = _
    rw [pt_T _ _ _ _ ht, ptn_T G f v t ht k]
theorem ptn_cOK {G : G1} (f : Nat) (v : Int32) (h : cOK G) (h2 : G.N 1 ≤ G.N 4) : ∀ k, f + k ≤ 16 → cOK (G.ptn f v k) ∧ (G.ptn f v k).N 1 ≤ (G.ptn f v k).N 4
  | 0, _ => ⟨h, h2⟩
  | k + 1, hk => pt_cOK (f + k) (by omega) _ (ptn_cOK f v h h2 k (by omega)).1 (ptn_cOK f v h h2 k (by omega)).2
/-- a request's first block and count are in range -/
def rOK (G : G1) (q : Nat) : Prop := ∃ f c : Nat, G.T 4 q = nI f ∧ G.T 5 q = nI c ∧ f + c ≤ 16 ∧ c ≤ 3
def fN (G : G1) (q : Nat) : Nat := (G.T 4 q).toNatClampNeg
def cN (G : G1) (q : Nat) : Nat := (G.T 5 q).toNatClampNeg
theorem rOK.f {G : G1} {q : Nat} (h : rOK G q) : G.T 4 q = nI (fN G q) ∧ G.T 5 q = nI (cN G q) ∧ fN G q + cN G q ≤ 16 ∧ cN G q ≤ 3 := by
  obtain ⟨f, c, h1, h2, h3, h4⟩ := h
  have e1 : fN G q = f := by unfold fN; rw [h1]; exact pk_cl f
  have e2 : cN G q = c := by unfold cN; rw [h2]; exact pk_cl c
  rw [e1, e2]
  exact ⟨h1, h2, h3, h4⟩
/-- part of a write -/
def G1.wp (G : G1) (q : Nat) (part : Int32) : G1 :=
  if G.T 5 q - 1 ≤ part then (G.ptn (fN G q) (G.T 6 q) (cN G q)).fin (nI q) else G.snd 1 (nI q) 2 (part + 1) 0 (G.I 4 + G.I 0)
/-- the target works a command -/
def G1.wk (G : G1) (q : Nat) (part : Int32) : G1 :=
  if G.T 3 q = 0 then G.wp q part else if G.T 3 q = 1 then (G.rdn (nI q) (fN G q) (cN G q)).fin (nI q) else (G.wbn (G.N 1)).fin (nI q)
/-- the initiator takes a message -/
def G1.tki (G : G1) (q : Nat) (kd nm vl ca : Int32) : G1 :=
  let G' := G.sI 5 (if G.I 5 < ca then ca else G.I 5)
  if kd = 2 then G'.snd 0 (nI q) 1 nm 0 0 else if kd = 3 then G'.sR q (upd (G.R q) nm.toNatClampNeg vl) else G'.sT 7 (upd (G.T 7) q 2)
end
section
set_option maxHeartbeats 4000000 in
set_option maxRecDepth 100000 in
theorem ct_Bs_sendUp {D : va_G} {l : Launch} {cI cZ cR cM : ClassId} {M : Mem} {ad : Nat → Nat} {G : G1} (h : R1 cI cR cM M ad G) (hcap : G.N 2 < 4) (a b c : Int32) : Ct TT D cls (tyL cI cZ cR cM) l y_Bs_sendUp b_Bs_sendUp 5 none 1 25 0 0 [.ref (ad 0), .int a, .int b, .int c] M (fun rv M' => rv = none ∧ R1 cI cR cM M' ad (G.snd 0 a b c 0 0)) := by
  refine ct_of "BlockTargetSession" rfl (by decide) (Nat.le_of_ble_eq_true rfl) ?_
  intro Z hl hD hnm hQ C
  subst hl
  subst hD
  show V cls 5 (rmOf 1 25 0 0) Z 0 [(0, .ref (ad 0)), (1, .int a), (2, .int b), (3, .int c)] [] M 0 0
  refine v_aload_n C (i := 0) d_Bs_sendUp_0 rfl rfl ?_
  refine v_get C (v := .ref (ad 6)) in_Bs h.o cl_Bs 4 (by decide) w_107 rfl rfl d_Bs_sendUp_1 ?_
  refine v_callV C (As := []) (rest := []) (h.ln 0 (by decide)) cl_Ln rfl w_202 w_203 (ct_Ln_putNewest (sl := ad 7) (sz := G.N 2) (N := 4) (g := fun j => if j < 4 then some (ad (10 + j)) else none) (a := fun j => ad (10 + j)) (h.ln 0 (by decide)) (h.sl 0 (by decide)) (by decide) (by omega) (fun j hj => if_pos hj)) (Nat.le_of_ble_eq_true rfl) (Nat.le_of_ble_eq_true rfl) w_204 w_2 hy_Ln_putNewest w_201 rfl (Nat.le_of_ble_eq_true rfl) ⟨by decide, by decide⟩ d_Bs_sendUp_4 (fun rv M hp => ?_)
  rcases hp with ⟨hge, _, _⟩ | ⟨_, rfl, rfl⟩
  · exact absurd hge (by omega)
  have h : R1 cI cR cM (mset M (ad 6) (ob 0 [.ref (ad 7), .int (nI (G.N 2 + 1))])) ad (G.sN 2 (G.N 2 + 1)) := h.psz 0 (G.N 2 + 1) (by decide)
  revert h
  generalize mset M (ad 6) (ob 0 [.ref (ad 7), .int (nI (G.N 2 + 1))]) = M
  intro h
  refine V.eqst (st' := [.ref (ad (10 + G.N 2))]) rfl (V.cs (k' := 0) (n' := 0) rfl rfl ?_)
  refine v_astore C (i := 4) (lv' := [(4, .ref (ad (10 + G.N 2))), (0, .ref (ad 0)), (1, .int a), (2, .int b), (3, .int c)]) d_Bs_sendUp_7 (by decide) rfl ?_
  refine v_aload C (i := 4) d_Bs_sendUp_9 rfl ?_
  refine v_ifnull C d_Bs_sendUp_11 ?_
  refine v_aload C (i := 4) d_Bs_sendUp_14 rfl ?_
  refine v_iload_n C (i := 1) d_Bs_sendUp_16 rfl rfl ?_
  refine v_iload_n C (i := 2) d_Bs_sendUp_17 rfl rfl ?_
  refine v_iload_n C (i := 3) d_Bs_sendUp_18 rfl rfl ?_
  refine v_iconst C (v := 0) d_Bs_sendUp_19 (by decide) ?_
  refine v_iconst C (v := 0) d_Bs_sendUp_20 (by decide) ?_
  refine v_callV C (As := [.int a, .int b, .int c, .int 0, .int 0]) (rest := []) (h.ms 0 (G.N 2) (by decide) hcap) cl_Ms rfl w_206 w_207 (ct_Ms_fill (h.ms 0 (G.N 2) (by decide) hcap) a b c 0 0) (Nat.le_of_ble_eq_true rfl) (Nat.le_of_ble_eq_true rfl) w_208 w_3 hy_Ms_fill w_205 rfl (Nat.le_of_ble_eq_true rfl) ⟨by decide, by decide⟩ d_Bs_sendUp_21 (fun rv M hp => ?_)
  obtain ⟨rfl, rfl⟩ := hp
  have h : R1 cI cR cM (mset M (ad (10 + G.N 2)) (ob 1 [.int a, .int b, .int c, .int 0, .int 0, .int 0])) ad (G.snd 0 a b c 0 0) := h.pM 0 (G.N 2) (by decide) hcap (v6 a b c 0 0 0)
  revert h
  generalize mset M (ad (10 + G.N 2)) (ob 1 [.int a, .int b, .int c, .int 0, .int 0, .int 0]) = M
  intro h
  refine V.eqst (st' := []) rfl (V.cs (k' := 0) (n' := 0) rfl rfl ?_)
  exact v_vret hQ C rfl d_Bs_sendUp_24 (by omega) (by omega) ⟨rfl, h⟩
set_option maxHeartbeats 4000000 in
set_option maxRecDepth 100000 in
theorem ct_Bs_sendDown {D : va_G} {l : Launch} {cI cZ cR cM : ClassId} {M : Mem} {ad : Nat → Nat} {G : G1} (h : R1 cI cR cM M ad G) (hcap : G.N 3 < 16) (a b c d : Int32) : Ct TT D cls (tyL cI cZ cR cM) l y_Bs_sendDown b_Bs_sendDown 6 none 1 25 0 0 [.ref (ad 0), .int a, .int b, .int c, .int d] M (fun rv M' => rv = none ∧ R1 cI cR cM M' ad (G.snd 1 a b c d (G.I 4 + G.I 0))) := by
  refine ct_of "BlockTargetSession" rfl (by decide) (Nat.le_of_ble_eq_true rfl) ?_
  intro Z hl hD hnm hQ C
  subst hl
  subst hD
  show V cls 6 (rmOf 1 25 0 0) Z 0 [(0, .ref (ad 0)), (1, .int a), (2, .int b), (3, .int c), (4, .int d)] [] M 0 0
  refine v_aload_n C (i := 0) d_Bs_sendDown_0 rfl rfl ?_
  refine v_get C (v := .ref (ad 8)) in_Bs h.o cl_Bs 5 (by decide) w_108 rfl rfl d_Bs_sendDown_1 ?_
  refine v_callV C (As := []) (rest := []) (h.ln 1 (by decide)) cl_Ln rfl w_202 w_203 (ct_Ln_putNewest (sl := ad 9) (sz := G.N 3) (N := 16) (g := fun j => if j < 16 then some (ad (14 + j)) else none) (a := fun j => ad (14 + j)) (h.ln 1 (by decide)) (h.sl 1 (by decide)) (by decide) (by omega) (fun j hj => if_pos hj)) (Nat.le_of_ble_eq_true rfl) (Nat.le_of_ble_eq_true rfl) w_204 w_2 hy_Ln_putNewest w_201 rfl (Nat.le_of_ble_eq_true rfl) ⟨by decide, by decide⟩ d_Bs_sendDown_4 (fun rv M hp => ?_)
  rcases hp with ⟨hge, _, _⟩ | ⟨_, rfl, rfl⟩
  · exact absurd hge (by omega)
  have h : R1 cI cR cM (mset M (ad 8) (ob 0 [.ref (ad 9), .int (nI (G.N 3 + 1))])) ad (G.sN 3 (G.N 3 + 1)) := h.psz 1 (G.N 3 + 1) (by decide)
  revert h
  generalize mset M (ad 8) (ob 0 [.ref (ad 9), .int (nI (G.N 3 + 1))]) = M
  intro h
  refine V.eqst (st' := [.ref (ad (14 + G.N 3))]) rfl (V.cs (k' := 0) (n' := 0) rfl rfl ?_)
  refine v_astore C (i := 5) (lv' := [(5, .ref (ad (14 + G.N 3))), (0, .ref (ad 0)), (1, .int a), (2, .int b), (3, .int c), (4, .int d)]) d_Bs_sendDown_7 (by decide) rfl ?_
  refine v_aload C (i := 5) d_Bs_sendDown_9 rfl ?_
  refine v_ifnull C d_Bs_sendDown_11 ?_
  refine v_aload C (i := 5) d_Bs_sendDown_14 rfl ?_
  refine v_iload_n C (i := 1) d_Bs_sendDown_16 rfl rfl ?_
  refine v_iload_n C (i := 2) d_Bs_sendDown_17 rfl rfl ?_
  refine v_iload_n C (i := 3) d_Bs_sendDown_18 rfl rfl ?_
  refine v_iload C (i := 4) d_Bs_sendDown_19 rfl ?_
  refine v_aload_n C (i := 0) d_Bs_sendDown_21 rfl rfl ?_
  refine v_get C (v := .int (G.I 4)) in_Bs h.o cl_Bs 9 (by decide) w_112 rfl rfl d_Bs_sendDown_22 ?_
  refine v_aload_n C (i := 0) d_Bs_sendDown_25 rfl rfl ?_
  refine v_get C (v := .int (G.I 0)) in_Bs h.o cl_Bs 0 (by decide) w_103 rfl rfl d_Bs_sendDown_26 ?_
  refine v_iadd C d_Bs_sendDown_29 ?_
  refine v_callV C (As := [.int a, .int b, .int c, .int d, .int ((G.I 4) + (G.I 0))]) (rest := []) (h.ms 1 (G.N 3) (by decide) hcap) cl_Ms rfl w_206 w_207 (ct_Ms_fill (h.ms 1 (G.N 3) (by decide) hcap) a b c d ((G.I 4) + (G.I 0))) (Nat.le_of_ble_eq_true rfl) (Nat.le_of_ble_eq_true rfl) w_208 w_3 hy_Ms_fill w_205 rfl (Nat.le_of_ble_eq_true rfl) ⟨by decide, by decide⟩ d_Bs_sendDown_30 (fun rv M hp => ?_)
  obtain ⟨rfl, rfl⟩ := hp
  have h : R1 cI cR cM (mset M (ad (14 + G.N 3)) (ob 1 [.int a, .int b, .int c, .int d, .int ((G.I 4) + (G.I 0)), .int 0])) ad (G.snd 1 a b c d ((G.I 4) + (G.I 0))) := h.pM 1 (G.N 3) (by decide) hcap (v6 a b c d ((G.I 4) + (G.I 0)) 0)
  revert h
  generalize mset M (ad (14 + G.N 3)) (ob 1 [.int a, .int b, .int c, .int d, .int ((G.I 4) + (G.I 0)), .int 0]) = M
  intro h
  refine V.eqst (st' := []) rfl (V.cs (k' := 0) (n' := 0) rfl rfl ?_)
  exact v_vret hQ C rfl d_Bs_sendDown_33 (by omega) (by omega) ⟨rfl, h⟩
set_option maxHeartbeats 4000000 in
set_option maxRecDepth 100000 in
theorem ct_Bs_finish {D : va_G} {l : Launch} {cI cZ cR cM : ClassId} {M : Mem} {ad : Nat → Nat} {G : G1} (h : R1 cI cR cM M ad G) (hcap : G.N 3 < 16) (q : Int32) : Ct TT D cls (tyL cI cZ cR cM) l y_Bs_finish b_Bs_finish 2 none 2 50 0 0 [.ref (ad 0), .int q] M (fun rv M' => rv = none ∧ R1 cI cR cM M' ad (G.fin q)) := by
  refine ct_of "BlockTargetSession" rfl (by decide) (Nat.le_of_ble_eq_true rfl) ?_
  intro Z hl hD hnm hQ C
  subst hl
  subst hD
  show V cls 2 (rmOf 2 50 0 0) Z 0 [(0, .ref (ad 0)), (1, .int q)] [] M 0 0
  refine v_aload_n C (i := 0) d_Bs_finish_0 rfl rfl ?_
  refine v_dup C d_Bs_finish_1 rfl ?_
  refine v_get C (v := .int (G.I 4)) in_Bs h.o cl_Bs 9 (by decide) w_112 rfl rfl d_Bs_finish_2 ?_
  refine v_iconst C (v := 1) d_Bs_finish_5 (by decide) ?_
  refine v_iadd C d_Bs_finish_6 ?_
  refine v_put C in_Bs t_Bs to_Bs nm_Bs h.o cl_Bs 9 (by decide) (fs' := [.int (G.I 0), .ref (ad 1), .ref (ad 5), .int (nI (G.N 0)), .ref (ad 6), .ref (ad 8), .int (G.I 1), .int (G.I 2), .int (G.I 3), .int ((G.I 4) + 1), .int (G.I 5)]) w_112 rfl rfl rfl rfl (Nat.le_of_ble_eq_true rfl) rfl d_Bs_finish_7 ?_
  have h : R1 cI cR cM (mset M (ad 0) (ob 4 [.int (G.I 0), .ref (ad 1), .ref (ad 5), .int (nI (G.N 0)), .ref (ad 6), .ref (ad 8), .int (G.I 1), .int (G.I 2), .int (G.I 3), .int ((G.I 4) + 1), .int (G.I 5)])) ad (G.sI 4 ((G.I 4) + 1)) := h.po 4 ((G.I 4) + 1)
  revert h
  generalize mset M (ad 0) (ob 4 [.int (G.I 0), .ref (ad 1), .ref (ad 5), .int (nI (G.N 0)), .ref (ad 6), .ref (ad 8), .int (G.I 1), .int (G.I 2), .int (G.I 3), .int ((G.I 4) + 1), .int (G.I 5)]) = M
  intro h
  refine v_aload_n C (i := 0) d_Bs_finish_10 rfl rfl ?_
  refine v_iload_n C (i := 1) d_Bs_finish_11 rfl rfl ?_
  refine v_iconst C (v := 4) d_Bs_finish_12 (by decide) ?_
  refine v_iconst C (v := 0) d_Bs_finish_13 (by decide) ?_
  refine v_iconst C (v := 0) d_Bs_finish_14 (by decide) ?_
  refine v_callV C (As := [.int q, .int 4, .int 0, .int 0]) (rest := []) h.o cl_Bs rfl w_250 wp_9 (ct_Bs_sendDown h hcap q 4 0 0) (Nat.le_of_ble_eq_true rfl) (Nat.le_of_ble_eq_true rfl) w_251 w_1 hy_Bs_sendDown w_248 rfl (Nat.le_of_ble_eq_true rfl) ⟨by decide, by decide⟩ d_Bs_finish_15 (fun rv M hp => ?_)
  obtain ⟨rfl, hq⟩ := hp
  refine V.eqst (st' := []) rfl (V.cs (k' := 0) (n' := 0) rfl rfl ?_)
  exact v_vret hQ C rfl d_Bs_finish_18 (by omega) (by omega) ⟨rfl, hq⟩
set_option maxHeartbeats 4000000 in
set_option maxRecDepth 100000 in
theorem ct_Bs_workSync {D : va_G} {l : Launch} {cI cZ cR cM : ClassId} {M : Mem} {ad : Nat → Nat} {G : G1} (h : R1 cI cR cM M ad G) (hc : cOK G) (hcap : G.N 3 < 16) (q : Int32) : Ct TT D cls (tyL cI cZ cR cM) l y_Bs_workSync b_Bs_workSync 2 none 3 71 0 0 [.ref (ad 0), .int q] M (fun rv M' => rv = none ∧ R1 cI cR cM M' ad ((G.wbn (G.N 1)).fin q)) := by
  refine ct_of "BlockTargetSession" rfl (by decide) (Nat.le_of_ble_eq_true rfl) ?_
  intro Z hl hD hnm hQ C
  subst hl
  subst hD
  show V cls 2 (rmOf 3 71 0 0) Z 0 [(0, .ref (ad 0)), (1, .int q)] [] M 0 0
  refine v_aload_n C (i := 0) d_Bs_workSync_0 rfl rfl ?_
  refine v_get C (v := .ref (ad 1)) in_Bs h.o cl_Bs 1 (by decide) w_104 rfl rfl d_Bs_workSync_1 ?_
  refine v_callV C (As := []) (rest := []) h.st cl_St rfl w_281 w_282 (ct_St_writeBackAll h hc) (Nat.le_of_ble_eq_true rfl) (Nat.le_of_ble_eq_true rfl) w_283 w_5 hy_St_writeBackAll w_280 rfl (Nat.le_of_ble_eq_true rfl) ⟨by decide, by decide⟩ d_Bs_workSync_4 (fun rv M hp => ?_)
  obtain ⟨rfl, h⟩ := hp
  refine V.eqst (st' := []) rfl (V.cs (k' := 0) (n' := 0) rfl rfl ?_)
  refine v_aload_n C (i := 0) d_Bs_workSync_7 rfl rfl ?_
  refine v_iload_n C (i := 1) d_Bs_workSync_8 rfl rfl ?_
  refine v_callV C (As := [.int q]) (rest := []) h.o cl_Bs rfl w_266 wp_11 (ct_Bs_finish h (by rw [wbn_N _ _ (by decide)]; exact hcap) q) (Nat.le_of_ble_eq_true rfl) (Nat.le_of_ble_eq_true rfl) w_267 w_1 hy_Bs_finish w_264 rfl (Nat.le_of_ble_eq_true rfl) ⟨by decide, by decide⟩ d_Bs_workSync_9 (fun rv M hp => ?_)
  obtain ⟨rfl, hq⟩ := hp
  refine V.eqst (st' := []) rfl (V.cs (k' := 0) (n' := 0) rfl rfl ?_)
  exact v_vret hQ C rfl d_Bs_workSync_12 (by omega) (by omega) ⟨rfl, hq⟩
set_option maxHeartbeats 4000000 in
set_option maxRecDepth 100000 in
theorem ct_Bs_workRead {D : va_G} {l : Launch} {cI cZ cR cM : ClassId} {M : Mem} {ad : Nat → Nat} {G : G1} (h : R1 cI cR cM M ad G) (hn : G.N 0 ≤ 120) (hc : cOK G) (q : Nat) (hq : q < G.N 0) (hr : rOK G q) (hcap : G.N 3 + cN G q < 16) : Ct TT D cls (tyL cI cZ cR cM) l y_Bs_workRead b_Bs_workRead 4 none 3 71 0 0 [.ref (ad 0), .int (nI q), .ref (ad (30 + 2 * q))] M (fun rv M' => rv = none ∧ R1 cI cR cM M' ad ((G.rdn (nI q) (fN G q) (cN G q)).fin (nI q))) := by
  refine ct_of "BlockTargetSession" rfl (by decide) (Nat.le_of_ble_eq_true rfl) ?_
  intro Z hl hD hnm hQ C
  subst hl
  subst hD
  show V cls 4 (rmOf 3 71 0 0) Z 0 [(0, .ref (ad 0)), (1, .int (nI q)), (2, .ref (ad (30 + 2 * q)))] [] M 0 0
  obtain ⟨r1, r2, r3, r4⟩ := hr.f
  refine v_iconst C (v := 0) d_Bs_workRead_0 (by decide) ?_
  refine v_istore_n C (i := 3) (lv' := [(3, .int 0), (0, .ref (ad 0)), (1, .int (nI q)), (2, .ref (ad (30 + 2 * q)))]) d_Bs_workRead_1 rfl (by decide) rfl ?_
  have L : ∀ (fu i : Nat) (M : Mem), cN G q - i < fu → i ≤ cN G q → R1 cI cR cM M ad (G.rdn (nI q) (fN G q) i) → V cls 4 (rmOf 3 71 0 0) Z 2 [(3, .int (nI i)), (0, .ref (ad 0)), (1, .int (nI q)), (2, .ref (ad (30 + 2 * q)))] [] M 0 0 := by
    intro fu
    induction fu with
    | zero => intro i M hf; omega
    | succ fu ih =>
      intro i M hf hi h
      have hrq : M (ad (30 + 2 * q)) = some (ob 2 [.int (G.T 3 q), .int (nI (fN G q)), .int (nI (cN G q)), .int (G.T 6 q), .ref (ad (31 + 2 * q)), .int (G.T 7 q)]) := by
        have z := h.rq q (by rw [rdn_N, if_neg (by decide)]; exact hq)
        simp only [rf] at z
        rw [rdn_T _ _ _ 3 (by decide), rdn_T _ _ _ 4 (by decide), rdn_T _ _ _ 5 (by decide), rdn_T _ _ _ 6 (by decide), rdn_T _ _ _ 7 (by decide), r1, r2] at z
        exact z
      refine v_iload_n C (i := 3) d_Bs_workRead_2 rfl rfl ?_
      refine v_aload_n C (i := 2) d_Bs_workRead_3 rfl rfl ?_
      refine v_get C (v := .int (nI (cN G q))) in_Rq hrq cl_Rq 2 (by decide) w_161 rfl rfl d_Bs_workRead_4 ?_
      refine v_icmp_ge C 36 d_Bs_workRead_7 (by decide) (fun c_7 => ?_) (fun c_7 => ?_)
      · have hi2 : i = cN G q := Nat.le_antisymm hi ((nI_leI (by omega) (by omega)).mp c_7)
        refine v_aload_n C (i := 0) d_Bs_workRead_36 rfl rfl ?_
        refine v_iload_n C (i := 1) d_Bs_workRead_37 rfl rfl ?_
        refine v_callV C (As := [.int (nI q)]) (rest := []) h.o cl_Bs rfl w_266 wp_11 (ct_Bs_finish h (by rw [rdn_N, if_pos rfl]; omega) (nI q)) (Nat.le_of_ble_eq_true rfl) (Nat.le_of_ble_eq_true rfl) w_267 w_1 hy_Bs_finish w_264 rfl (Nat.le_of_ble_eq_true rfl) ⟨by decide, by decide⟩ d_Bs_workRead_38 (fun rv M hp => ?_)
        obtain ⟨rfl, hq⟩ := hp
        refine V.eqst (st' := []) rfl (V.cs (k' := 0) (n' := 0) rfl rfl ?_)
        exact v_vret hQ C rfl d_Bs_workRead_41 (by omega) (by omega) ⟨rfl, by rw [← hi2]; exact hq⟩
      · have hi2 : i < cN G q := Nat.lt_of_not_le (fun z => c_7 ((nI_leI (by omega) (by omega)).mpr z))
        refine v_aload_n C (i := 0) d_Bs_workRead_10 rfl rfl ?_
        refine v_iload_n C (i := 1) d_Bs_workRead_11 rfl rfl ?_
        refine v_iconst C (v := 3) d_Bs_workRead_12 (by decide) ?_
        refine v_iload_n C (i := 3) d_Bs_workRead_13 rfl rfl ?_
        refine v_aload_n C (i := 0) d_Bs_workRead_14 rfl rfl ?_
        refine v_get C (v := .ref (ad 1)) in_Bs h.o cl_Bs 1 (by decide) w_104 rfl rfl d_Bs_workRead_15 ?_
        refine v_aload_n C (i := 2) d_Bs_workRead_18 rfl rfl ?_
        refine v_get C (v := .int (nI (fN G q))) in_Rq hrq cl_Rq 1 (by decide) w_159 rfl rfl d_Bs_workRead_19 ?_
        refine v_iload_n C (i := 3) d_Bs_workRead_22 rfl rfl ?_
        refine v_iadd C d_Bs_workRead_23 ?_
        refine V.eqst (st' := [.int (nI (fN G q + i)), .ref (ad 1), .int (nI i), .int 3, .int (nI q), .ref (ad 0)]) (by rw [nI_add]) ?_
        refine v_callV C (As := [.int (nI (fN G q + i))]) (rest := [.int (nI i), .int 3, .int (nI q), .ref (ad 0)]) h.st cl_St rfl w_273 w_274 (ct_St_presentInt h (rdn_cOK (nI q) (fN G q) hc i) (fN G q + i) (by omega)) (Nat.le_of_ble_eq_true rfl) (Nat.le_of_ble_eq_true rfl) w_275 w_5 hy_St_presentInt w_272 rfl (Nat.le_of_ble_eq_true rfl) ⟨by decide, by decide⟩ d_Bs_workRead_24 (fun rv M hp => ?_)
        obtain ⟨rfl, rfl⟩ := hp
        refine V.eqst (st' := [.int ((G.rdn (nI q) (fN G q) i).pv (fN G q + i)), .int (nI i), .int 3, .int (nI q), .ref (ad 0)]) rfl (V.cs (k' := 0) (n' := 0) rfl rfl ?_)
        refine V.eqst (st' := [.int (G.pv (fN G q + i)), .int (nI i), .int 3, .int (nI q), .ref (ad 0)]) (by rw [rdn_pv]) ?_
        refine v_callV C (As := [.int (nI q), .int 3, .int (nI i), .int (G.pv (fN G q + i))]) (rest := []) h.o cl_Bs rfl w_250 wp_9 (ct_Bs_sendDown h (by rw [rdn_N, if_pos rfl]; omega) (nI q) 3 (nI i) (G.pv (fN G q + i))) (Nat.le_of_ble_eq_true rfl) (Nat.le_of_ble_eq_true rfl) w_251 w_1 hy_Bs_sendDown w_248 rfl (Nat.le_of_ble_eq_true rfl) ⟨by decide, by decide⟩ d_Bs_workRead_27 (fun rv M hp => ?_)
        obtain ⟨rfl, hq2⟩ := hp
        rw [rdn_I] at hq2
        refine V.eqst (st' := []) rfl (V.cs (k' := 0) (n' := 0) rfl rfl ?_)
        refine v_iinc C (i := 3) (j := 0) (v := nI (i + 1)) (lv' := [(3, .int (nI (i + 1))), (0, .ref (ad 0)), (1, .int (nI q)), (2, .ref (ad (30 + 2 * q)))]) d_Bs_workRead_30 rfl (nI_1 i) (by decide) rfl ?_
        refine v_goto C 2 d_Bs_workRead_33 (by decide) ?_
        exact ih (i + 1) M (by omega) (by omega) hq2
  refine V.pick (lv' := [(3, .int (nI 0)), (0, .ref (ad 0)), (1, .int (nI q)), (2, .ref (ad (30 + 2 * q)))]) [0, 1, 2, 3] (by rw [nI_0]; rfl) ?_
  exact L (cN G q + 1) 0 M (by omega) (by omega) h
set_option maxHeartbeats 4000000 in
set_option maxRecDepth 100000 in
theorem ct_Bs_workPartOfWrite {D : va_G} {l : Launch} {cI cZ cR cM : ClassId} {M : Mem} {ad : Nat → Nat} {G : G1} (h : R1 cI cR cM M ad G) (hn : G.N 0 ≤ 120) (hc : cOK G) (q : Nat) (hq : q < G.N 0) (hr : rOK G q) (hcr : G.N 1 ≤ G.N 4) (hcap : G.N 3 < 16) (pt : Int32) : Ct TT D cls (tyL cI cZ cR cM) l y_Bs_workPartOfWrite b_Bs_workPartOfWrite 5 none 3 71 0 0 [.ref (ad 0), .int (nI q), .ref (ad (30 + 2 * q)), .int pt] M (fun rv M' => rv = none ∧ R1 cI cR cM M' ad (G.wp q pt)) := by
  refine ct_of "BlockTargetSession" rfl (by decide) (Nat.le_of_ble_eq_true rfl) ?_
  intro Z hl hD hnm hQ C
  subst hl
  subst hD
  show V cls 5 (rmOf 3 71 0 0) Z 0 [(0, .ref (ad 0)), (1, .int (nI q)), (2, .ref (ad (30 + 2 * q))), (3, .int pt)] [] M 0 0
  obtain ⟨r1, r2, r3, r4⟩ := hr.f
  have hrq : M (ad (30 + 2 * q)) = some (ob 2 [.int (G.T 3 q), .int (nI (fN G q)), .int (nI (cN G q)), .int (G.T 6 q), .ref (ad (31 + 2 * q)), .int (G.T 7 q)]) := by
    have z := h.rq q (by rw [show G.N 0 = G.N 0 from rfl]; exact hq)
    simp only [rf] at z
    rw [r1, r2] at z
    exact z
  refine v_iload_n C (i := 3) d_Bs_workPartOfWrite_0 rfl rfl ?_
  refine v_aload_n C (i := 2) d_Bs_workPartOfWrite_1 rfl rfl ?_
  refine v_get C (v := .int (nI (cN G q))) in_Rq hrq cl_Rq 2 (by decide) w_161 rfl rfl d_Bs_workPartOfWrite_2 ?_
  refine v_iconst C (v := 1) d_Bs_workPartOfWrite_5 (by decide) ?_
  refine v_isub C d_Bs_workPartOfWrite_6 ?_
  refine v_icmp_ge C 21 d_Bs_workPartOfWrite_7 (by decide) (fun c_7 => ?_) (fun c_7 => ?_)
  · refine v_iconst C (v := 0) d_Bs_workPartOfWrite_21 (by decide) ?_
    refine v_istore C (i := 4) (lv' := [(4, .int 0), (0, .ref (ad 0)), (1, .int (nI q)), (2, .ref (ad (30 + 2 * q))), (3, .int pt)]) d_Bs_workPartOfWrite_22 (by decide) rfl ?_
    have L : ∀ (fu i : Nat) (M : Mem), cN G q - i < fu → i ≤ cN G q → R1 cI cR cM M ad (G.ptn (fN G q) (G.T 6 q) i) → V cls 5 (rmOf 3 71 0 0) Z 24 [(4, .int (nI i)), (0, .ref (ad 0)), (1, .int (nI q)), (2, .ref (ad (30 + 2 * q))), (3, .int pt)] [] M 0 0 := by
      intro fu
      induction fu with
      | zero => intro i M hf; omega
      | succ fu ih =>
        intro i M hf hi h
        have hrq : M (ad (30 + 2 * q)) = some (ob 2 [.int (G.T 3 q), .int (nI (fN G q)), .int (nI (cN G q)), .int (G.T 6 q), .ref (ad (31 + 2 * q)), .int (G.T 7 q)]) := by
          have z := h.rq q (by rw [ptn_N _ _ _ _ (by decide)]; exact hq)
          simp only [rf] at z
          rw [ptn_T _ _ _ 3 (by decide), ptn_T _ _ _ 4 (by decide), ptn_T _ _ _ 5 (by decide), ptn_T _ _ _ 6 (by decide), ptn_T _ _ _ 7 (by decide), r1, r2] at z
          exact z
        refine v_iload C (i := 4) d_Bs_workPartOfWrite_24 rfl ?_
        refine v_aload_n C (i := 2) d_Bs_workPartOfWrite_26 rfl rfl ?_
        refine v_get C (v := .int (nI (cN G q))) in_Rq hrq cl_Rq 2 (by decide) w_161 rfl rfl d_Bs_workPartOfWrite_27 ?_
        refine v_icmp_ge C 60 d_Bs_workPartOfWrite_30 (by decide) (fun c_30 => ?_) (fun c_30 => ?_)
        · have hi2 : i = cN G q := Nat.le_antisymm hi ((nI_leI (by omega) (by omega)).mp c_30)
          refine v_aload_n C (i := 0) d_Bs_workPartOfWrite_60 rfl rfl ?_
          refine v_iload_n C (i := 1) d_Bs_workPartOfWrite_61 rfl rfl ?_
          refine v_callV C (As := [.int (nI q)]) (rest := []) h.o cl_Bs rfl w_266 wp_11 (ct_Bs_finish h (by rw [ptn_N _ _ _ _ (by decide)]; exact hcap) (nI q)) (Nat.le_of_ble_eq_true rfl) (Nat.le_of_ble_eq_true rfl) w_267 w_1 hy_Bs_finish w_264 rfl (Nat.le_of_ble_eq_true rfl) ⟨by decide, by decide⟩ d_Bs_workPartOfWrite_62 (fun rv M hp => ?_)
          obtain ⟨rfl, hq⟩ := hp
          refine V.eqst (st' := []) rfl (V.cs (k' := 0) (n' := 0) rfl rfl ?_)
          exact v_vret hQ C rfl d_Bs_workPartOfWrite_65 (by omega) (by omega) ⟨rfl, by rw [G1.wp, if_pos (by rw [r2]; exact c_7), ← hi2]; exact hq⟩
        · have hi2 : i < cN G q := Nat.lt_of_not_le (fun z => c_30 ((nI_leI (by omega) (by omega)).mpr z))
          refine v_aload_n C (i := 0) d_Bs_workPartOfWrite_33 rfl rfl ?_
          refine v_get C (v := .ref (ad 1)) in_Bs h.o cl_Bs 1 (by decide) w_104 rfl rfl d_Bs_workPartOfWrite_34 ?_
          refine v_aload_n C (i := 2) d_Bs_workPartOfWrite_37 rfl rfl ?_
          refine v_get C (v := .int (nI (fN G q))) in_Rq hrq cl_Rq 1 (by decide) w_159 rfl rfl d_Bs_workPartOfWrite_38 ?_
          refine v_iload C (i := 4) d_Bs_workPartOfWrite_41 rfl ?_
          refine v_iadd C d_Bs_workPartOfWrite_43 ?_
          refine V.eqst (st' := [.int (nI (fN G q + i)), .ref (ad 1)]) (by rw [nI_add]) ?_
          refine v_aload_n C (i := 2) d_Bs_workPartOfWrite_44 rfl rfl ?_
          refine v_get C (v := .int (G.T 6 q)) in_Rq hrq cl_Rq 3 (by decide) w_163 rfl rfl d_Bs_workPartOfWrite_45 ?_
          refine v_iload C (i := 4) d_Bs_workPartOfWrite_48 rfl ?_
          refine v_iadd C d_Bs_workPartOfWrite_50 ?_
          refine v_callV C (As := [.int (nI (fN G q + i)), .int ((G.T 6 q) + (nI i))]) (rest := []) h.st cl_St rfl w_253 w_254 (ct_St_put h (ptn_cOK (fN G q) (G.T 6 q) hc hcr i (by omega)).1 (ptn_cOK (fN G q) (G.T 6 q) hc hcr i (by omega)).2 (fN G q + i) (by omega) ((G.T 6 q) + (nI i))) (Nat.le_of_ble_eq_true rfl) (Nat.le_of_ble_eq_true rfl) w_255 w_5 hy_St_put w_252 rfl (Nat.le_of_ble_eq_true rfl) ⟨by decide, by decide⟩ d_Bs_workPartOfWrite_51 (fun rv M hp => ?_)
          obtain ⟨rfl, hq2⟩ := hp
          refine V.eqst (st' := []) rfl (V.cs (k' := 0) (n' := 0) rfl rfl ?_)
          refine v_iinc C (i := 4) (j := 0) (v := nI (i + 1)) (lv' := [(4, .int (nI (i + 1))), (0, .ref (ad 0)), (1, .int (nI q)), (2, .ref (ad (30 + 2 * q))), (3, .int pt)]) d_Bs_workPartOfWrite_54 rfl (nI_1 i) (by decide) rfl ?_
          refine v_goto C 24 d_Bs_workPartOfWrite_57 (by decide) ?_
          exact ih (i + 1) M (by omega) (by omega) hq2
    refine V.pick (lv' := [(4, .int (nI 0)), (0, .ref (ad 0)), (1, .int (nI q)), (2, .ref (ad (30 + 2 * q))), (3, .int pt)]) [0, 1, 2, 3, 4] (by rw [nI_0]; rfl) ?_
    exact L (cN G q + 1) 0 M (by omega) (by omega) h
  · refine v_aload_n C (i := 0) d_Bs_workPartOfWrite_10 rfl rfl ?_
    refine v_iload_n C (i := 1) d_Bs_workPartOfWrite_11 rfl rfl ?_
    refine v_iconst C (v := 2) d_Bs_workPartOfWrite_12 (by decide) ?_
    refine v_iload_n C (i := 3) d_Bs_workPartOfWrite_13 rfl rfl ?_
    refine v_iconst C (v := 1) d_Bs_workPartOfWrite_14 (by decide) ?_
    refine v_iadd C d_Bs_workPartOfWrite_15 ?_
    refine v_iconst C (v := 0) d_Bs_workPartOfWrite_16 (by decide) ?_
    refine v_callV C (As := [.int (nI q), .int 2, .int (pt + 1), .int 0]) (rest := []) h.o cl_Bs rfl w_250 wp_9 (ct_Bs_sendDown h hcap (nI q) 2 (pt + 1) 0) (Nat.le_of_ble_eq_true rfl) (Nat.le_of_ble_eq_true rfl) w_251 w_1 hy_Bs_sendDown w_248 rfl (Nat.le_of_ble_eq_true rfl) ⟨by decide, by decide⟩ d_Bs_workPartOfWrite_17 (fun rv M hp => ?_)
    obtain ⟨rfl, hq⟩ := hp
    refine V.eqst (st' := []) rfl (V.cs (k' := 0) (n' := 0) rfl rfl ?_)
    exact v_vret hQ C rfl d_Bs_workPartOfWrite_20 (by omega) (by omega) ⟨rfl, by rw [G1.wp, if_neg (by rw [r2]; exact c_7)]; exact hq⟩
end
section
set_option maxHeartbeats 4000000 in
set_option maxRecDepth 100000 in
theorem ct_Bs_workAtTarget {D : va_G} {l : Launch} {cI cZ cR cM : ClassId} {M : Mem} {ad : Nat → Nat} {G : G1} (h : R1 cI cR cM M ad G) (hn : G.N 0 ≤ 120) (hc : cOK G) (hcr : G.N 1 ≤ G.N 4) (hcap : G.N 3 ≤ 12) (j : Nat) (hj : j < 4) (q : Nat) (hq : G.T 10 j = nI q) (hqn : q < G.N 0) (hr : rOK G q) : Ct TT D cls (tyL cI cZ cR cM) l y_Bs_workAtTarget b_Bs_workAtTarget 3 none 4 95 0 0 [.ref (ad 0), .ref (ad (10 + j))] M (fun rv M' => rv = none ∧ R1 cI cR cM M' ad (G.wk q (if G.T 11 j = 1 then G.T 12 j else 0))) := by
  refine ct_of "BlockTargetSession" rfl (by decide) (Nat.le_of_ble_eq_true rfl) ?_
  intro Z hl hD hnm hQ C
  subst hl
  subst hD
  show V cls 3 (rmOf 4 95 0 0) Z 0 [(0, .ref (ad 0)), (1, .ref (ad (10 + j)))] [] M 0 0
  have hms : M (ad (10 + j)) = some (ob 1 [.int (nI q), .int (G.T 11 j), .int (G.T 12 j), .int (G.T 13 j), .int (G.T 14 j), .int (G.T 15 j)]) := by
    have z := h.ms 0 j (by decide) hj
    rw [← hq]
    exact z
  refine v_aload_n C (i := 0) d_Bs_workAtTarget_0 rfl rfl ?_
  refine v_aload_n C (i := 1) d_Bs_workAtTarget_1 rfl rfl ?_
  refine v_get C (v := .int (nI q)) in_Ms hms cl_Ms 0 (by decide) w_33 rfl rfl d_Bs_workAtTarget_2 ?_
  refine v_callV C (As := [.int (nI q)]) (rest := []) h.o cl_Bs rfl w_242 wp_7 (ct_Bs_requestAt h hn (nI q)) (Nat.le_of_ble_eq_true rfl) (Nat.le_of_ble_eq_true rfl) w_243 w_1 hy_Bs_requestAt w_240 rfl (Nat.le_of_ble_eq_true rfl) ⟨by decide, by decide⟩ d_Bs_workAtTarget_5 (fun rv M hp => ?_)
  have hN9 : G.N 0 = G.N 0 := rfl
  obtain ⟨rfl, hp⟩ := hp
  obtain rfl : rv = some (.ref (ad (30 + 2 * q))) := by
    rcases hp with ⟨z | z, _⟩ | ⟨j2, hj2, e2, e3⟩
    · exact absurd z (nI_pos (by omega))
    · exact absurd z (nI_ge hqn (by omega))
    · rw [e3, (nI_eq (by omega) (by omega)).mp e2]
  refine V.eqst (st' := [.ref (ad (30 + 2 * q))]) rfl (V.cs (k' := 0) (n' := 0) rfl rfl ?_)
  refine v_astore_n C (i := 2) (lv' := [(2, .ref (ad (30 + 2 * q))), (0, .ref (ad 0)), (1, .ref (ad (10 + j)))]) d_Bs_workAtTarget_8 rfl (by decide) rfl ?_
  refine v_aload_n C (i := 2) d_Bs_workAtTarget_9 rfl rfl ?_
  refine v_ifnonnull C 14 d_Bs_workAtTarget_10 (by decide) ?_
  refine v_aload_n C (i := 2) d_Bs_workAtTarget_14 rfl rfl ?_
  refine v_get C (v := .int ((G.T 3) q)) in_Rq (h.rq q hqn) cl_Rq 0 (by decide) w_157 rfl rfl d_Bs_workAtTarget_15 ?_
  refine v_if_ne C 49 d_Bs_workAtTarget_18 (by decide) (fun c_18 => ?_) (fun c_18 => ?_)
  · refine v_aload_n C (i := 2) d_Bs_workAtTarget_49 rfl rfl ?_
    refine v_get C (v := .int ((G.T 3) q)) in_Rq (h.rq q hqn) cl_Rq 0 (by decide) w_157 rfl rfl d_Bs_workAtTarget_50 ?_
    refine v_iconst C (v := 1) d_Bs_workAtTarget_53 (by decide) ?_
    refine v_icmp_ne C 69 d_Bs_workAtTarget_54 (by decide) (fun c_54 => ?_) (fun c_54 => ?_)
    · refine v_aload_n C (i := 0) d_Bs_workAtTarget_69 rfl rfl ?_
      refine v_aload_n C (i := 1) d_Bs_workAtTarget_70 rfl rfl ?_
      refine v_get C (v := .int (nI q)) in_Ms hms cl_Ms 0 (by decide) w_33 rfl rfl d_Bs_workAtTarget_71 ?_
      refine v_callV C (As := [.int (nI q)]) (rest := []) h.o cl_Bs rfl w_278 wp_13 (ct_Bs_workSync h hc (by omega) (nI q)) (Nat.le_of_ble_eq_true rfl) (Nat.le_of_ble_eq_true rfl) w_279 w_1 hy_Bs_workSync w_276 rfl (Nat.le_of_ble_eq_true rfl) ⟨by decide, by decide⟩ d_Bs_workAtTarget_74 (fun rv M hp => ?_)
      obtain ⟨rfl, hw⟩ := hp
      refine V.eqst (st' := []) rfl (V.cs (k' := 0) (n' := 0) rfl rfl ?_)
      exact v_vret hQ C rfl d_Bs_workAtTarget_77 (by omega) (by omega) ⟨rfl, by rw [G1.wk, if_neg c_18, if_neg c_54]; exact hw⟩
    · refine v_aload_n C (i := 0) d_Bs_workAtTarget_57 rfl rfl ?_
      refine v_aload_n C (i := 1) d_Bs_workAtTarget_58 rfl rfl ?_
      refine v_get C (v := .int (nI q)) in_Ms hms cl_Ms 0 (by decide) w_33 rfl rfl d_Bs_workAtTarget_59 ?_
      refine v_aload_n C (i := 2) d_Bs_workAtTarget_62 rfl rfl ?_
      refine v_callV C (As := [.int (nI q), .ref (ad (30 + 2 * q))]) (rest := []) h.o cl_Bs rfl w_270 wp_12 (ct_Bs_workRead h hn hc q hqn hr (by have := hr.f.2.2.2; omega)) (Nat.le_of_ble_eq_true rfl) (Nat.le_of_ble_eq_true rfl) w_271 w_1 hy_Bs_workRead w_268 rfl (Nat.le_of_ble_eq_true rfl) ⟨by decide, by decide⟩ d_Bs_workAtTarget_63 (fun rv M hp => ?_)
      obtain ⟨rfl, hw⟩ := hp
      refine V.eqst (st' := []) rfl (V.cs (k' := 0) (n' := 0) rfl rfl ?_)
      refine v_goto C 77 d_Bs_workAtTarget_66 (by decide) ?_
      exact v_vret hQ C rfl d_Bs_workAtTarget_77 (by omega) (by omega) ⟨rfl, by rw [G1.wk, if_neg c_18, if_pos c_54]; exact hw⟩
  · refine v_aload_n C (i := 0) d_Bs_workAtTarget_21 rfl rfl ?_
    refine v_aload_n C (i := 1) d_Bs_workAtTarget_22 rfl rfl ?_
    refine v_get C (v := .int (nI q)) in_Ms hms cl_Ms 0 (by decide) w_33 rfl rfl d_Bs_workAtTarget_23 ?_
    refine v_aload_n C (i := 2) d_Bs_workAtTarget_26 rfl rfl ?_
    refine v_aload_n C (i := 1) d_Bs_workAtTarget_27 rfl rfl ?_
    refine v_get C (v := .int (G.T 11 j)) in_Ms hms cl_Ms 1 (by decide) w_35 rfl rfl d_Bs_workAtTarget_28 ?_
    refine v_iconst C (v := 1) d_Bs_workAtTarget_31 (by decide) ?_
    refine v_icmp_ne C 42 d_Bs_workAtTarget_32 (by decide) (fun c_32 => ?_) (fun c_32 => ?_)
    · refine v_iconst C (v := 0) d_Bs_workAtTarget_42 (by decide) ?_
      refine v_callV C (As := [.int (nI q), .ref (ad (30 + 2 * q)), .int 0]) (rest := []) h.o cl_Bs rfl w_246 wp_8 (ct_Bs_workPartOfWrite h hn hc q hqn hr hcr (by omega) 0) (Nat.le_of_ble_eq_true rfl) (Nat.le_of_ble_eq_true rfl) w_247 w_1 hy_Bs_workPartOfWrite w_244 rfl (Nat.le_of_ble_eq_true rfl) ⟨by decide, by decide⟩ d_Bs_workAtTarget_43 (fun rv M hp => ?_)
      obtain ⟨rfl, hw⟩ := hp
      refine V.eqst (st' := []) rfl (V.cs (k' := 0) (n' := 0) rfl rfl ?_)
      refine v_goto C 77 d_Bs_workAtTarget_46 (by decide) ?_
      exact v_vret hQ C rfl d_Bs_workAtTarget_77 (by omega) (by omega) ⟨rfl, by rw [G1.wk, if_pos c_18, if_neg c_32]; exact hw⟩
    · refine v_aload_n C (i := 1) d_Bs_workAtTarget_35 rfl rfl ?_
      refine v_get C (v := .int (G.T 12 j)) in_Ms hms cl_Ms 2 (by decide) w_37 rfl rfl d_Bs_workAtTarget_36 ?_
      refine v_goto C 43 d_Bs_workAtTarget_39 (by decide) ?_
      refine v_callV C (As := [.int (nI q), .ref (ad (30 + 2 * q)), .int (G.T 12 j)]) (rest := []) h.o cl_Bs rfl w_246 wp_8 (ct_Bs_workPartOfWrite h hn hc q hqn hr hcr (by omega) (G.T 12 j)) (Nat.le_of_ble_eq_true rfl) (Nat.le_of_ble_eq_true rfl) w_247 w_1 hy_Bs_workPartOfWrite w_244 rfl (Nat.le_of_ble_eq_true rfl) ⟨by decide, by decide⟩ d_Bs_workAtTarget_43 (fun rv M hp => ?_)
      obtain ⟨rfl, hw⟩ := hp
      refine V.eqst (st' := []) rfl (V.cs (k' := 0) (n' := 0) rfl rfl ?_)
      refine v_goto C 77 d_Bs_workAtTarget_46 (by decide) ?_
      exact v_vret hQ C rfl d_Bs_workAtTarget_77 (by omega) (by omega) ⟨rfl, by rw [G1.wk, if_pos c_18, if_pos c_32]; exact hw⟩
set_option maxHeartbeats 4000000 in
set_option maxRecDepth 100000 in
theorem ct_Bs_takeAtInitiator {D : va_G} {l : Launch} {cI cZ cR cM : ClassId} {M : Mem} {ad : Nat → Nat} {G : G1} (h : R1 cI cR cM M ad G) (hn : G.N 0 ≤ 120) (hrl : ∀ j, j < G.N 0 → rlen G j ≤ 200) (j : Nat) (hj : j < 16) (q : Nat) (hq : G.T 20 j = nI q) (hqn : q < G.N 0) (hcap : G.T 21 j = 2 → G.N 2 < 4) (hpc : G.T 21 j = 3 → ∃ k, G.T 22 j = nI k ∧ k < rlen G q) : Ct TT D cls (tyL cI cZ cR cM) l y_Bs_takeAtInitiator b_Bs_takeAtInitiator 3 none 2 49 0 0 [.ref (ad 0), .ref (ad (14 + j))] M (fun rv M' => rv = none ∧ R1 cI cR cM M' ad (G.tki q (G.T 21 j) (G.T 22 j) (G.T 23 j) (G.T 24 j))) := by
  refine ct_of "BlockTargetSession" rfl (by decide) (Nat.le_of_ble_eq_true rfl) ?_
  intro Z hl hD hnm hQ C
  subst hl
  subst hD
  show V cls 3 (rmOf 2 49 0 0) Z 0 [(0, .ref (ad 0)), (1, .ref (ad (14 + j)))] [] M 0 0
  have hms : M (ad (14 + j)) = some (ob 1 [.int (nI q), .int (G.T 21 j), .int (G.T 22 j), .int (G.T 23 j), .int (G.T 24 j), .int (G.T 25 j)]) := by
    have z := h.ms 1 j (by decide) hj
    rw [← hq]
    exact z
  refine v_aload_n C (i := 0) d_Bs_takeAtInitiator_0 rfl rfl ?_
  refine v_aload_n C (i := 0) d_Bs_takeAtInitiator_1 rfl rfl ?_
  refine v_get C (v := .int (G.I 5)) in_Bs h.o cl_Bs 10 (by decide) w_113 rfl rfl d_Bs_takeAtInitiator_2 ?_
  refine v_aload_n C (i := 1) d_Bs_takeAtInitiator_5 rfl rfl ?_
  refine v_get C (v := .int (G.T 24 j)) in_Ms hms cl_Ms 4 (by decide) w_41 rfl rfl d_Bs_takeAtInitiator_6 ?_
  refine v_mmax C w_71 w_72 w_4 w_73 (by decide) (Nat.le_of_ble_eq_true rfl) (by decide) (by decide) d_Bs_takeAtInitiator_9 ?_
  refine v_put C in_Bs t_Bs to_Bs nm_Bs h.o cl_Bs 10 (by decide) (fs' := [.int (G.I 0), .ref (ad 1), .ref (ad 5), .int (nI (G.N 0)), .ref (ad 6), .ref (ad 8), .int (G.I 1), .int (G.I 2), .int (G.I 3), .int (G.I 4), .int (if G.I 5 < G.T 24 j then G.T 24 j else G.I 5)]) w_113 rfl rfl rfl rfl (Nat.le_of_ble_eq_true rfl) rfl d_Bs_takeAtInitiator_12 ?_
  have h : R1 cI cR cM (mset M (ad 0) (ob 4 [.int (G.I 0), .ref (ad 1), .ref (ad 5), .int (nI (G.N 0)), .ref (ad 6), .ref (ad 8), .int (G.I 1), .int (G.I 2), .int (G.I 3), .int (G.I 4), .int (if G.I 5 < G.T 24 j then G.T 24 j else G.I 5)])) ad (G.sI 5 (if G.I 5 < G.T 24 j then G.T 24 j else G.I 5)) := h.po 5 (if G.I 5 < G.T 24 j then G.T 24 j else G.I 5)
  revert h
  generalize mset M (ad 0) (ob 4 [.int (G.I 0), .ref (ad 1), .ref (ad 5), .int (nI (G.N 0)), .ref (ad 6), .ref (ad 8), .int (G.I 1), .int (G.I 2), .int (G.I 3), .int (G.I 4), .int (if G.I 5 < G.T 24 j then G.T 24 j else G.I 5)]) = M
  intro h
  have hms : M (ad (14 + j)) = some (ob 1 [.int (nI q), .int (G.T 21 j), .int (G.T 22 j), .int (G.T 23 j), .int (G.T 24 j), .int (G.T 25 j)]) := by
    have z := h.ms 1 j (by decide) hj
    rw [← hq]
    exact z
  refine v_aload_n C (i := 0) d_Bs_takeAtInitiator_15 rfl rfl ?_
  refine v_aload_n C (i := 1) d_Bs_takeAtInitiator_16 rfl rfl ?_
  refine v_get C (v := .int (nI q)) in_Ms hms cl_Ms 0 (by decide) w_33 rfl rfl d_Bs_takeAtInitiator_17 ?_
  refine v_callV C (As := [.int (nI q)]) (rest := []) h.o cl_Bs rfl w_242 wp_7 (ct_Bs_requestAt h hn (nI q)) (Nat.le_of_ble_eq_true rfl) (Nat.le_of_ble_eq_true rfl) w_243 w_1 hy_Bs_requestAt w_240 rfl (Nat.le_of_ble_eq_true rfl) ⟨by decide, by decide⟩ d_Bs_takeAtInitiator_20 (fun rv M hp => ?_)
  have hN9 : (G.sI 5 (if G.I 5 < G.T 24 j then G.T 24 j else G.I 5)).N 0 = G.N 0 := rfl
  obtain ⟨rfl, hp⟩ := hp
  obtain rfl : rv = some (.ref (ad (30 + 2 * q))) := by
    rcases hp with ⟨z | z, _⟩ | ⟨j2, hj2, e2, e3⟩
    · exact absurd z (nI_pos (by omega))
    · exact absurd z (nI_ge hqn (by omega))
    · rw [e3, (nI_eq (by omega) (by omega)).mp e2]
  refine V.eqst (st' := [.ref (ad (30 + 2 * q))]) rfl (V.cs (k' := 0) (n' := 0) rfl rfl ?_)
  refine v_astore_n C (i := 2) (lv' := [(2, .ref (ad (30 + 2 * q))), (0, .ref (ad 0)), (1, .ref (ad (14 + j)))]) d_Bs_takeAtInitiator_23 rfl (by decide) rfl ?_
  refine v_aload_n C (i := 2) d_Bs_takeAtInitiator_24 rfl rfl ?_
  refine v_ifnonnull C 29 d_Bs_takeAtInitiator_25 (by decide) ?_
  refine v_aload_n C (i := 1) d_Bs_takeAtInitiator_29 rfl rfl ?_
  refine v_get C (v := .int (G.T 21 j)) in_Ms hms cl_Ms 1 (by decide) w_35 rfl rfl d_Bs_takeAtInitiator_30 ?_
  refine v_iconst C (v := 2) d_Bs_takeAtInitiator_33 (by decide) ?_
  refine v_icmp_ne C 53 d_Bs_takeAtInitiator_34 (by decide) (fun c_34 => ?_) (fun c_34 => ?_)
  · refine v_aload_n C (i := 1) d_Bs_takeAtInitiator_53 rfl rfl ?_
    refine v_get C (v := .int (G.T 21 j)) in_Ms hms cl_Ms 1 (by decide) w_35 rfl rfl d_Bs_takeAtInitiator_54 ?_
    refine v_iconst C (v := 3) d_Bs_takeAtInitiator_57 (by decide) ?_
    refine v_icmp_ne C 76 d_Bs_takeAtInitiator_58 (by decide) (fun c_58 => ?_) (fun c_58 => ?_)
    · refine v_aload_n C (i := 2) d_Bs_takeAtInitiator_76 rfl rfl ?_
      refine v_iconst C (v := 2) d_Bs_takeAtInitiator_77 (by decide) ?_
      refine v_put C in_Rq t_Rq to_Rq nm_Rq (h.rq q hqn) cl_Rq 5 (by decide) (fs' := [.int ((G.T 3) q), .int ((G.T 4) q), .int ((G.T 5) q), .int ((G.T 6) q), .ref (ad (31 + 2 * q)), .int 2]) w_167 rfl rfl rfl rfl (Nat.le_of_ble_eq_true rfl) rfl d_Bs_takeAtInitiator_78 ?_
      have h : R1 cI cR cM (mset M (ad (30 + 2 * q)) (ob 2 [.int ((G.T 3) q), .int ((G.T 4) q), .int ((G.T 5) q), .int ((G.T 6) q), .ref (ad (31 + 2 * q)), .int 2])) ad ((G.sI 5 (if G.I 5 < G.T 24 j then G.T 24 j else G.I 5)).sT 7 (upd (G.T 7) q 2)) := h.preq q hqn 2
      revert h
      generalize mset M (ad (30 + 2 * q)) (ob 2 [.int ((G.T 3) q), .int ((G.T 4) q), .int ((G.T 5) q), .int ((G.T 6) q), .ref (ad (31 + 2 * q)), .int 2]) = M
      intro h
      have hms : M (ad (14 + j)) = some (ob 1 [.int (nI q), .int (G.T 21 j), .int (G.T 22 j), .int (G.T 23 j), .int (G.T 24 j), .int (G.T 25 j)]) := by
        have z := h.ms 1 j (by decide) hj
        rw [← hq]
        exact z
      exact v_vret hQ C rfl d_Bs_takeAtInitiator_81 (by omega) (by omega) ⟨rfl, by simp only [G1.tki]; rw [if_neg c_34, if_neg c_58]; exact h⟩
    · obtain ⟨k, ek, hk⟩ := hpc c_58
      have hk9 := hrl q hqn
      refine v_aload_n C (i := 2) d_Bs_takeAtInitiator_61 rfl rfl ?_
      refine v_aload_n C (i := 1) d_Bs_takeAtInitiator_62 rfl rfl ?_
      refine v_get C (v := .int (G.T 22 j)) in_Ms hms cl_Ms 2 (by decide) w_37 rfl rfl d_Bs_takeAtInitiator_63 ?_
      refine V.eqst (st' := [.int (nI k), .ref (ad (30 + 2 * q))]) (by rw [ek]) ?_
      refine v_aload_n C (i := 1) d_Bs_takeAtInitiator_66 rfl rfl ?_
      refine v_get C (v := .int (G.T 23 j)) in_Ms hms cl_Ms 3 (by decide) w_39 rfl rfl d_Bs_takeAtInitiator_67 ?_
      refine v_callV C (As := [.int (nI k), .int (G.T 23 j)]) (rest := []) (h.rq q hqn) cl_Rq rfl w_289 w_290 (ct_Rq_keepResult (N := rlen G q) (f := G.R q) (h.rq q hqn) (h.rr q hqn) (hrl q hqn) k hk (G.T 23 j)) (Nat.le_of_ble_eq_true rfl) (Nat.le_of_ble_eq_true rfl) w_291 w_7 hy_Rq_keepResult w_288 rfl (Nat.le_of_ble_eq_true rfl) ⟨by decide, by decide⟩ d_Bs_takeAtInitiator_70 (fun rv M hp => ?_)
      obtain ⟨rfl, rfl⟩ := hp
      have h : R1 cI cR cM (mset M (ad (31 + 2 * q)) (aI cI (rlen G q) (upd (G.R q) k (G.T 23 j)))) ad ((G.sI 5 (if G.I 5 < G.T 24 j then G.T 24 j else G.I 5)).sR q (upd (G.R q) k (G.T 23 j))) := h.prr q hqn (upd (G.R q) k (G.T 23 j))
      revert h
      generalize mset M (ad (31 + 2 * q)) (aI cI (rlen G q) (upd (G.R q) k (G.T 23 j))) = M
      intro h
      refine V.eqst (st' := []) rfl (V.cs (k' := 0) (n' := 0) rfl rfl ?_)
      refine v_goto C 81 d_Bs_takeAtInitiator_73 (by decide) ?_
      exact v_vret hQ C rfl d_Bs_takeAtInitiator_81 (by omega) (by omega) ⟨rfl, by simp only [G1.tki]; rw [if_neg c_34, if_pos c_58, ek, pk_cl k]; exact h⟩
  · refine v_aload_n C (i := 0) d_Bs_takeAtInitiator_37 rfl rfl ?_
    refine v_aload_n C (i := 1) d_Bs_takeAtInitiator_38 rfl rfl ?_
    refine v_get C (v := .int (nI q)) in_Ms hms cl_Ms 0 (by decide) w_33 rfl rfl d_Bs_takeAtInitiator_39 ?_
    refine v_iconst C (v := 1) d_Bs_takeAtInitiator_42 (by decide) ?_
    refine v_aload_n C (i := 1) d_Bs_takeAtInitiator_43 rfl rfl ?_
    refine v_get C (v := .int (G.T 22 j)) in_Ms hms cl_Ms 2 (by decide) w_37 rfl rfl d_Bs_takeAtInitiator_44 ?_
    refine v_callV C (As := [.int (nI q), .int 1, .int (G.T 22 j)]) (rest := []) h.o cl_Bs rfl w_199 wp_3 (ct_Bs_sendUp h (hcap c_34) (nI q) 1 (G.T 22 j)) (Nat.le_of_ble_eq_true rfl) (Nat.le_of_ble_eq_true rfl) w_200 w_1 hy_Bs_sendUp w_197 rfl (Nat.le_of_ble_eq_true rfl) ⟨by decide, by decide⟩ d_Bs_takeAtInitiator_47 (fun rv M hp => ?_)
    obtain ⟨rfl, hw⟩ := hp
    refine V.eqst (st' := []) rfl (V.cs (k' := 0) (n' := 0) rfl rfl ?_)
    refine v_goto C 81 d_Bs_takeAtInitiator_50 (by decide) ?_
    exact v_vret hQ C rfl d_Bs_takeAtInitiator_81 (by omega) (by omega) ⟨rfl, by simp only [G1.tki]; rw [if_pos c_34]; exact hw⟩
end
section
/-! the oldest message goes: its object comes behind the others -/
def rot (m j : Nat) : Nat := if j < m then j + 1 else if j = m then 0 else j
theorem rot_lt {m j c : Nat} (hm : m < c) (hj : j < c) : rot m j < c := by
  unfold rot
  split
  · omega
  · split <;> omega
theorem rot_inj {m i j : Nat} (h : rot m i = rot m j) : i = j := by
  unfold rot at h
  split at h <;> split at h <;> (try split at h) <;> (try split at h) <;> omega
theorem rot_m (m : Nat) : rot m m = 0 := by
  unfold rot
  rw [if_neg (by omega), if_pos rfl]
theorem rot_low {m j : Nat} (h : j < m) : rot m j = j + 1 := by
  unfold rot
  rw [if_pos h]
def rtg (x m t : Nat) : Nat := if mb x ≤ t ∧ t < mb x + cap x then mb x + rot m (t - mb x) else t
theorem rtg_out {x m t : Nat} (h : t < mb x ∨ mb x + cap x ≤ t) : rtg x m t = t := if_neg (by omega)
theorem rtg_in {x m j : Nat} (h : j < cap x) : rtg x m (mb x + j) = mb x + rot m j := by
  unfold rtg
  rw [if_pos ⟨by omega, by omega⟩, Nat.add_sub_cancel_left]
theorem rtg_low {x m t : Nat} (h : t < 10) : rtg x m t = t := rtg_out (Or.inl (by simp only [mb]; omega))
theorem rtg_high {x m t : Nat} (hx : x < 2) (h : 30 ≤ t) : rtg x m t = t := rtg_out (Or.inr (by simp only [mb, cap]; omega))
theorem rtg_lt {x m t n : Nat} (hx : x < 2) (hm : m < cap x) (h : t < 30 + 2 * n) : rtg x m t < 30 + 2 * n := by
  unfold rtg
  split
  · rename_i q
    have := rot_lt hm (show t - mb x < cap x by omega)
    simp only [mb, cap] at *
    omega
  · exact h
theorem rtg_inj {x m t t' : Nat} (hm : m < cap x) (h : rtg x m t = rtg x m t') : t = t' := by
  unfold rtg at h
  by_cases c : mb x ≤ t ∧ t < mb x + cap x
  · by_cases c' : mb x ≤ t' ∧ t' < mb x + cap x
    · rw [if_pos c, if_pos c'] at h
      have := rot_inj (m := m) (i := t - mb x) (j := t' - mb x) (by omega)
      omega
    · rw [if_pos c, if_neg c'] at h
      have := rot_lt hm (show t - mb x < cap x by omega)
      omega
  · by_cases c' : mb x ≤ t' ∧ t' < mb x + cap x
    · rw [if_neg c, if_pos c'] at h
      have := rot_lt hm (show t' - mb x < cap x by omega)
      omega
    · rw [if_neg c, if_neg c'] at h
      exact h
def G1.tk (G : G1) (x m : Nat) : G1 := (va_up G.1 (2 + x) m, G.2.1, fun t j => if 10 + 10 * x ≤ t ∧ t ≤ 15 + 10 * x then G.T t (rot m j) else G.T t j, G.2.2.2)
theorem tk_T (G : G1) (x m t : Nat) (h : ¬ (10 + 10 * x ≤ t ∧ t ≤ 15 + 10 * x)) : (G.tk x m).T t = G.T t := funext fun j => if_neg h
theorem tk_Tm (G : G1) (x m t j : Nat) (h : 10 + 10 * x ≤ t ∧ t ≤ 15 + 10 * x) : (G.tk x m).T t j = G.T t (rot m j) := if_pos h
theorem tk_N (G : G1) (x m k : Nat) (h : k ≠ 2 + x) : (G.tk x m).N k = G.N k := va_up_ne _ _ h
theorem tk_Nx (G : G1) (x m : Nat) : (G.tk x m).N (2 + x) = m := va_up_self _ _ _
theorem R1.tko {cI cR cM : ClassId} {M : Mem} {ad : Nat → Nat} {G : G1} (h : R1 cI cR cM M ad G) (x m : Nat) (hx : x < 2) (hm : m < cap x) {g' : Nat → Option Nat}
    (h1 : ∀ j, j < m → g' j = if j + 1 < cap x then some (ad (mb x + (j + 1))) else none) (h2 : g' m = if 0 < cap x then some (ad (mb x + 0)) else none) (h3 : ∀ j, m < j → g' j = if j < cap x then some (ad (mb x + j)) else none) :
    R1 cI cR cM (mset (mset M (ad (6 + 2 * x)) (ob 0 [.ref (ad (7 + 2 * x)), .int (nI m)])) (ad (7 + 2 * x)) (aQ cM (cap x) g')) (fun t => ad (rtg x m t)) (G.tk x m) := by
  have hg : g' = fun j => if j < cap x then some (ad (rtg x m (mb x + j))) else none := by
    funext j
    by_cases c : j < cap x
    · rw [if_pos c, rtg_in c]
      by_cases c1 : j < m
      · rw [h1 j c1, if_pos (by omega), rot_low c1]
      · by_cases c2 : j = m
        · subst c2; rw [h2, if_pos (by omega), rot_m]
        · rw [h3 j (by omega), if_pos c]
          unfold rot
          rw [if_neg c1, if_neg c2]
    · rw [if_neg c, h3 j (by omega), if_neg c]
  subst hg
  generalize hM2 : mset (mset M (ad (6 + 2 * x)) (ob 0 [.ref (ad (7 + 2 * x)), .int (nI m)])) (ad (7 + 2 * x)) (aQ cM (cap x) (fun j => if j < cap x then some (ad (rtg x m (mb x + j))) else none)) = M2
  have hk : ∀ s, s < 30 + 2 * G.N 0 → s ≠ 6 + 2 * x → s ≠ 7 + 2 * x → M2 (ad s) = M (ad s) := fun s hs n1 n2 => by
    rw [← hM2, mset_ne (h.inj hs (by omega) n2), mset_ne (h.inj hs (by omega) n1)]
  have n0 : (G.tk x m).N 0 = G.N 0 := tk_N G x m 0 (by omega)
  have n1 : (G.tk x m).N 1 = G.N 1 := tk_N G x m 1 (by omega)
  have n4 : (G.tk x m).N 4 = G.N 4 := tk_N G x m 4 (by omega)
  have tl : ∀ t, t < 10 → (G.tk x m).T t = G.T t := fun t ht => tk_T G x m t (by omega)
  have al : ∀ t, t < 10 → ad (rtg x m t) = ad t := fun t ht => by rw [rtg_low ht]
  have ah : ∀ t, 30 ≤ t → ad (rtg x m t) = ad t := fun t ht => by rw [rtg_high hx ht]
  refine ⟨?_, ?_, ?_, ?_, ?_, ?_, ?_, ?_, ?_, ?_, ?_, ?_⟩
  · intro t t' ht ht' e
    rw [n0] at ht ht'
    exact rtg_inj hm (h.1 _ _ (rtg_lt hx hm ht) (rtg_lt hx hm ht') e)
  · show M2 (ad (rtg x m 0)) = some (ob 4 (bf (fun t => ad (rtg x m t)) (G.tk x m)))
    rw [al 0 (by omega), hk 0 (by omega) (by omega) (by omega), h.o]
    simp only [bf]
    rw [al 1 (by omega), al 5 (by omega), al 6 (by omega), al 8 (by omega), n0]
    rfl
  · show M2 (ad (rtg x m 1)) = _
    rw [al 1 (by omega), hk 1 (by omega) (by omega) (by omega), h.st]
    simp only
    rw [al 2 (by omega), al 3 (by omega), al 4 (by omega), n4, n1]
  · show M2 (ad (rtg x m 2)) = _
    rw [al 2 (by omega), hk 2 (by omega) (by omega) (by omega), h.dk, tl 0 (by omega)]
  · show M2 (ad (rtg x m 3)) = _
    rw [al 3 (by omega), hk 3 (by omega) (by omega) (by omega), h.cb, tl 1 (by omega), n4]
  · show M2 (ad (rtg x m 4)) = _
    rw [al 4 (by omega), hk 4 (by omega) (by omega) (by omega), h.cv, tl 2 (by omega), n4]
  · show M2 (ad (rtg x m 5)) = some (aQ cR 120 (fun i => if i < (G.tk x m).N 0 then some (ad (rtg x m (30 + 2 * i))) else none))
    rw [al 5 (by omega), hk 5 (by omega) (by omega) (by omega), h.rs, n0]
    congr 2
    congr 6
    funext i
    rw [ah (30 + 2 * i) (by omega)]
  · intro y hy
    show M2 (ad (rtg x m (6 + 2 * y))) = some (ob 0 [.ref (ad (rtg x m (7 + 2 * y))), .int (nI ((G.tk x m).N (2 + y)))])
    rw [al (6 + 2 * y) (by omega), al (7 + 2 * y) (by omega)]
    by_cases c : y = x
    · subst c
      rw [← hM2, mset_ne (h.inj (by omega) (by omega) (by omega)), mset_self, tk_Nx]
    · rw [hk _ (by omega) (by omega) (by omega), h.ln y hy, tk_N G x m (2 + y) (by omega)]
  · intro y hy
    show M2 (ad (rtg x m (7 + 2 * y))) = some (aQ cM (cap y) (fun j => if j < cap y then some (ad (rtg x m (mb y + j))) else none))
    rw [al (7 + 2 * y) (by omega)]
    by_cases c : y = x
    · subst c
      rw [← hM2, mset_self]
    · rw [hk _ (by omega) (by omega) (by omega), h.sl y hy]
      congr 2
      congr 6
      funext j
      by_cases c2 : j < cap y
      · rw [if_pos c2, if_pos c2, rtg_out (by simp only [mb, cap] at *; omega)]
      · rw [if_neg c2, if_neg c2]
  · intro y j hy hj
    show M2 (ad (rtg x m (mb y + j))) = some (ob 1 (mf (G.tk x m) y j))
    by_cases c : y = x
    · subst c
      have hr := rot_lt hm hj
      rw [rtg_in hj, hk _ (by simp only [mb, cap] at *; omega) (by simp only [mb]; omega) (by simp only [mb]; omega), h.ms y _ hy hr]
      simp only [mf]
      rw [tk_Tm G y m _ j (by omega), tk_Tm G y m _ j (by omega), tk_Tm G y m _ j (by omega), tk_Tm G y m _ j (by omega), tk_Tm G y m _ j (by omega), tk_Tm G y m _ j (by omega)]
    · rw [rtg_out (by simp only [mb, cap] at *; omega), hk _ (by simp only [mb, cap] at *; omega) (by simp only [mb]; omega) (by simp only [mb]; omega), h.ms y j hy hj]
      simp only [mf]
      rw [tk_T G x m _ (by omega), tk_T G x m _ (by omega), tk_T G x m _ (by omega), tk_T G x m _ (by omega), tk_T G x m _ (by omega), tk_T G x m _ (by omega)]
  · intro i hi
    rw [n0] at hi
    show M2 (ad (rtg x m (30 + 2 * i))) = some (ob 2 (rf (fun t => ad (rtg x m t)) (G.tk x m) i))
    rw [ah _ (by omega), hk _ (by omega) (by omega) (by omega), h.rq i hi]
    simp only [rf]
    rw [ah _ (by omega), tl 3 (by omega), tl 4 (by omega), tl 5 (by omega), tl 6 (by omega), tl 7 (by omega)]
  · intro i hi
    rw [n0] at hi
    show M2 (ad (rtg x m (31 + 2 * i))) = some (aI cI (rlen (G.tk x m) i) (G.R i))
    rw [ah _ (by omega), hk _ (by omega) (by omega) (by omega), h.rr i hi]
    simp only [rlen]
    rw [tl 3 (by omega), tl 5 (by omega)]
/-- takeOldest in the class's words -/
theorem R1.tko2 {cI cR cM : ClassId} {M : Mem} {ad : Nat → Nat} {G : G1} (h : R1 cI cR cM M ad G) (x m : Nat) (hx : x < 2) (hm : m < cap x) {g' : Nat → Option Nat}
    (h1 : ∀ j, j < m → g' j = if j + 1 < cap x then some (ad (mb x + (j + 1))) else none) (h2 : g' m = if 0 < cap x then some (ad (mb x + 0)) else none) (h3 : ∀ j, m < j → g' j = if j < cap x then some (ad (mb x + j)) else none) :
    ∃ ad2 : Nat → Nat, ad2 0 = ad 0 ∧ ad2 (mb x + m) = ad (mb x + 0) ∧ R1 cI cR cM (mset (mset M (ad (6 + 2 * x)) (ob 0 [.ref (ad (7 + 2 * x)), .int (nI m)])) (ad (7 + 2 * x)) (aQ cM (cap x) g')) ad2 (G.tk x m) :=
  ⟨fun t => ad (rtg x m t), by show ad (rtg x m 0) = _; rw [rtg_low (by omega)], by show ad (rtg x m (mb x + m)) = _; rw [rtg_in hm, rot_m], h.tko x m hx hm h1 h2 h3⟩
end
section
theorem ts_neg {x : Int32} (h : x < 0) : x.toInt < 0 := by
  have := Int32.lt_iff_toInt_lt.mp h
  simpa using this
theorem ts_big {x : Int32} {n : Nat} (h : nI (n + 1) ≤ x) (hn : n + 1 < 2 ^ 31) : (n : Int) < x.toInt := by
  have := Int32.le_iff_toInt_le.mp h
  rw [nI_toInt hn] at this
  omega
def G1.dm (G : G1) (x j : Nat) : G1 := G.sT (15 + 10 * x) (upd (G.T (15 + 10 * x)) j 1)
theorem dm_T (G : G1) (x j t i : Nat) (h : ¬ (t = 15 + 10 * x ∧ i = j)) : (G.dm x j).T t i = G.T t i := by
  show va_up G.2.2.1 (15 + 10 * x) _ t i = _
  by_cases c : t = 15 + 10 * x
  · subst c
    rw [va_up_self, pk_un (fun z => h ⟨rfl, z⟩)]
  · rw [va_up_ne _ _ c]
theorem dm_at (G : G1) (x j : Nat) : (G.dm x j).T (15 + 10 * x) j = 1 := by
  show va_up G.2.2.1 (15 + 10 * x) _ (15 + 10 * x) j = _
  rw [va_up_self, pk_us]
theorem R1.pdm {cI cR cM : ClassId} {M : Mem} {ad : Nat → Nat} {G : G1} (h : R1 cI cR cM M ad G) (x j : Nat) (hx : x < 2) (hj : j < cap x) : R1 cI cR cM (mset M (ad (mb x + j)) (ob 1 [.int (G.T (10 + 10 * x) j), .int (G.T (11 + 10 * x) j), .int (G.T (12 + 10 * x) j), .int (G.T (13 + 10 * x) j), .int (G.T (14 + 10 * x) j), .int 1])) ad (G.dm x j) := by
  have := h.pmsg x j hx hj (G' := G.dm x j) rfl rfl rfl (fun t i hti => dm_T G x j t i (by omega))
  simp only [mf] at this
  rw [dm_T G x j _ j (by omega), dm_T G x j _ j (by omega), dm_T G x j _ j (by omega), dm_T G x j _ j (by omega), dm_T G x j _ j (by omega), dm_at] at this
  exact this
def fldA (G : G1) (x j : Nat) (f : Int32) : Int32 :=
  if f = 0 then G.T (10 + 10 * x) j else if f = 1 then G.T (11 + 10 * x) j else if f = 2 then G.T (12 + 10 * x) j else if f = 3 then G.T (14 + 10 * x) j else if f = 4 then (if G.T (15 + 10 * x) j = 0 then 0 else 1) else -1
theorem fldA_out (G : G1) (x j : Nat) {f : Int32} (h : f < 0 ∨ nI 5 ≤ f) : fldA G x j f = -1 := by
  unfold fldA
  rw [if_neg (fun e => by subst e; revert h; decide), if_neg (fun e => by subst e; revert h; decide), if_neg (fun e => by subst e; revert h; decide), if_neg (fun e => by subst e; revert h; decide), if_neg (fun e => by subst e; revert h; decide)]
/-- send: its answer and the state behind it -/
def G1.sendR (G : G1) : Int32 × G1 :=
  if G.I 1 = 0 then (-4, G) else if plc (G.T 7) 0 (G.N 0) = G.N 0 then (-3, G)
  else if G.I 3 < G.I 5 then (nI (plc (G.T 7) 0 (G.N 0)), ((G.sT 7 (upd (G.T 7) (plc (G.T 7) 0 (G.N 0)) 1)).sI 3 (G.I 3 + 1)).snd 0 (nI (plc (G.T 7) 0 (G.N 0))) 0 0 0 0) else (-2, G)
theorem fin_up (G : G1) (q : Int32) (t : Nat) (ht : t < 20) : (G.fin q).T t = G.T t := funext fun i => sM_ne _ _ _ _ _ _ (by omega)
theorem snd1_up (G : G1) (a b c d e : Int32) (t : Nat) (ht : t < 20) : (G.snd 1 a b c d e).T t = G.T t := funext fun i => sM_ne _ _ _ _ _ _ (by omega)
theorem snd0_down (G : G1) (a b c d e : Int32) (t : Nat) (ht : 16 ≤ t) : (G.snd 0 a b c d e).T t = G.T t := funext fun i => sM_ne _ _ _ _ _ _ (by omega)
theorem rdn_up (G : G1) (q : Int32) (f t : Nat) (ht : t < 20) : ∀ k, (G.rdn q f k).T t = G.T t
  | 0 => rfl
  | k + 1 => by
    show ((G.rdn q f k).snd 1 q 3 _ _ _).T t = _
    rw [snd1_up _ _ _ _ _ _ _ ht, rdn_up G q f t ht k]
theorem wk_up (G : G1) (q : Nat) (p : Int32) (t : Nat) (h3 : 3 ≤ t) (ht : t < 20) : (G.wk q p).T t = G.T t := by
  unfold G1.wk
  split
  · unfold G1.wp
    split
    · rw [fin_up _ _ _ ht, ptn_T _ _ _ _ h3]
    · rw [snd1_up _ _ _ _ _ _ _ ht]
  · split
    · rw [fin_up _ _ _ ht, rdn_up _ _ _ _ ht]
    · rw [fin_up _ _ _ ht, wbn_T _ _ h3]
theorem tki_down (G : G1) (q : Nat) (a b c d : Int32) (t : Nat) (ht : 16 ≤ t) : (G.tki q a b c d).T t = G.T t := by
  simp only [G1.tki]
  split
  · rw [snd0_down _ _ _ _ _ _ _ ht]; rfl
  · split
    · rfl
    · exact va_up_ne _ _ (by omega)
end
section
set_option maxHeartbeats 4000000 in
set_option maxRecDepth 100000 in
theorem ct_Bs_send {D : va_G} {l : Launch} {cI cZ cR cM : ClassId} {M : Mem} {ad : Nat → Nat} {G : G1} (h : R1 cI cR cM M ad G) (hn : G.N 0 ≤ 120) (hcap : G.I 3 < G.I 5 → G.N 2 < 4) : Ct TT D cls (tyL cI cZ cR cM) l y_Bs_send b_Bs_send 2 (some .int) 2 49 0 0 [.ref (ad 0)] M (fun rv M' => rv = some (.int G.sendR.1) ∧ R1 cI cR cM M' ad G.sendR.2) := by
  refine ct_of "BlockTargetSession" rfl (by decide) (Nat.le_of_ble_eq_true rfl) ?_
  intro Z hl hD hnm hQ C
  subst hl
  subst hD
  show V cls 2 (rmOf 2 49 0 0) Z 0 [(0, .ref (ad 0))] [] M 0 0
  refine v_aload_n C (i := 0) d_Bs_send_0 rfl rfl ?_
  refine v_get C (v := .int (G.I 1)) in_Bs h.o cl_Bs 6 (by decide) w_109 rfl rfl d_Bs_send_1 ?_
  refine v_if_ne C 10 d_Bs_send_4 (by decide) (fun c_4 => ?_) (fun c_4 => ?_)
  · refine v_aload_n C (i := 0) d_Bs_send_10 rfl rfl ?_
    refine v_callV C (As := []) (rest := []) h.o cl_Bs rfl w_195 wp_2 (ct_Bs_firstOpenRequest h hn) (Nat.le_of_ble_eq_true rfl) (Nat.le_of_ble_eq_true rfl) w_196 w_1 hy_Bs_firstOpenRequest w_193 rfl (Nat.le_of_ble_eq_true rfl) ⟨by decide, by decide⟩ d_Bs_send_11 (fun rv M hp => ?_)
    obtain ⟨rfl, hp⟩ := hp
    rcases hp with ⟨hlt, rfl⟩ | ⟨heq, rfl⟩
    · refine V.eqst (st' := [.int (nI (plc (G.T 7) 0 (G.N 0)))]) rfl (V.cs (k' := 0) (n' := 0) rfl rfl ?_)
      refine v_istore_n C (i := 1) (lv' := [(1, .int (nI (plc (G.T 7) 0 (G.N 0)))), (0, .ref (ad 0))]) d_Bs_send_14 rfl (by decide) rfl ?_
      refine v_iload_n C (i := 1) d_Bs_send_15 rfl rfl ?_
      refine v_bipush C (v := (-3)) d_Bs_send_16 (by decide) ?_
      refine v_icmp_ne C 24 d_Bs_send_18 (by decide) (fun c_18 => ?_) (fun c_18 => absurd c_18 (fun z => nI_pos (n := plc (G.T 7) 0 (G.N 0)) (by omega) (by rw [z]; decide)))
      refine v_aload_n C (i := 0) d_Bs_send_24 rfl rfl ?_
      refine v_get C (v := .int (G.I 3)) in_Bs h.o cl_Bs 8 (by decide) w_111 rfl rfl d_Bs_send_25 ?_
      refine v_aload_n C (i := 0) d_Bs_send_28 rfl rfl ?_
      refine v_get C (v := .int (G.I 5)) in_Bs h.o cl_Bs 10 (by decide) w_113 rfl rfl d_Bs_send_29 ?_
      refine v_icmp_lt C 38 d_Bs_send_32 (by decide) (fun c_32 => ?_) (fun c_32 => ?_)
      · refine v_aload_n C (i := 0) d_Bs_send_38 rfl rfl ?_
        refine v_get C (v := .ref (ad 5)) in_Bs h.o cl_Bs 2 (by decide) w_105 rfl rfl d_Bs_send_39 ?_
        refine v_iload_n C (i := 1) d_Bs_send_42 rfl rfl ?_
        refine v_aldq C (N := 120) (f := fun i => if i < G.N 0 then some (ad (30 + 2 * i)) else none) 2 h.rs rfl (pk_in (plc (G.T 7) 0 (G.N 0)) 120 (by omega)) (v := .ref (ad (30 + 2 * (plc (G.T 7) 0 (G.N 0))))) (by rw [pk_cl (plc (G.T 7) 0 (G.N 0))]; show va_rf (if plc (G.T 7) 0 (G.N 0) < G.N 0 then some (ad (30 + 2 * (plc (G.T 7) 0 (G.N 0)))) else none) = _; rw [if_pos hlt]; rfl) d_Bs_send_43 ?_
        refine v_iconst C (v := 1) d_Bs_send_44 (by decide) ?_
        refine v_put C in_Rq t_Rq to_Rq nm_Rq (h.rq (plc (G.T 7) 0 (G.N 0)) hlt) cl_Rq 5 (by decide) (fs' := [.int ((G.T 3) (plc (G.T 7) 0 (G.N 0))), .int ((G.T 4) (plc (G.T 7) 0 (G.N 0))), .int ((G.T 5) (plc (G.T 7) 0 (G.N 0))), .int ((G.T 6) (plc (G.T 7) 0 (G.N 0))), .ref (ad (31 + 2 * (plc (G.T 7) 0 (G.N 0)))), .int 1]) w_167 rfl rfl rfl rfl (Nat.le_of_ble_eq_true rfl) rfl d_Bs_send_45 ?_
        have h : R1 cI cR cM (mset M (ad (30 + 2 * (plc (G.T 7) 0 (G.N 0)))) (ob 2 [.int ((G.T 3) (plc (G.T 7) 0 (G.N 0))), .int ((G.T 4) (plc (G.T 7) 0 (G.N 0))), .int ((G.T 5) (plc (G.T 7) 0 (G.N 0))), .int ((G.T 6) (plc (G.T 7) 0 (G.N 0))), .ref (ad (31 + 2 * (plc (G.T 7) 0 (G.N 0)))), .int 1])) ad (G.sT 7 (upd (G.T 7) (plc (G.T 7) 0 (G.N 0)) 1)) := h.preq (plc (G.T 7) 0 (G.N 0)) hlt 1
        revert h
        generalize mset M (ad (30 + 2 * (plc (G.T 7) 0 (G.N 0)))) (ob 2 [.int ((G.T 3) (plc (G.T 7) 0 (G.N 0))), .int ((G.T 4) (plc (G.T 7) 0 (G.N 0))), .int ((G.T 5) (plc (G.T 7) 0 (G.N 0))), .int ((G.T 6) (plc (G.T 7) 0 (G.N 0))), .ref (ad (31 + 2 * (plc (G.T 7) 0 (G.N 0)))), .int 1]) = M
        intro h
        refine v_aload_n C (i := 0) d_Bs_send_48 rfl rfl ?_
        refine v_dup C d_Bs_send_49 rfl ?_
        refine v_get C (v := .int (G.I 3)) in_Bs h.o cl_Bs 8 (by decide) w_111 rfl rfl d_Bs_send_50 ?_
        refine v_iconst C (v := 1) d_Bs_send_53 (by decide) ?_
        refine v_iadd C d_Bs_send_54 ?_
        refine v_put C in_Bs t_Bs to_Bs nm_Bs h.o cl_Bs 8 (by decide) (fs' := [.int (G.I 0), .ref (ad 1), .ref (ad 5), .int (nI (G.N 0)), .ref (ad 6), .ref (ad 8), .int (G.I 1), .int (G.I 2), .int ((G.I 3) + 1), .int (G.I 4), .int (G.I 5)]) w_111 rfl rfl rfl rfl (Nat.le_of_ble_eq_true rfl) rfl d_Bs_send_55 ?_
        have h : R1 cI cR cM (mset M (ad 0) (ob 4 [.int (G.I 0), .ref (ad 1), .ref (ad 5), .int (nI (G.N 0)), .ref (ad 6), .ref (ad 8), .int (G.I 1), .int (G.I 2), .int ((G.I 3) + 1), .int (G.I 4), .int (G.I 5)])) ad ((G.sT 7 (upd (G.T 7) (plc (G.T 7) 0 (G.N 0)) 1)).sI 3 ((G.I 3) + 1)) := h.po 3 ((G.I 3) + 1)
        revert h
        generalize mset M (ad 0) (ob 4 [.int (G.I 0), .ref (ad 1), .ref (ad 5), .int (nI (G.N 0)), .ref (ad 6), .ref (ad 8), .int (G.I 1), .int (G.I 2), .int ((G.I 3) + 1), .int (G.I 4), .int (G.I 5)]) = M
        intro h
        refine v_aload_n C (i := 0) d_Bs_send_58 rfl rfl ?_
        refine v_iload_n C (i := 1) d_Bs_send_59 rfl rfl ?_
        refine v_iconst C (v := 0) d_Bs_send_60 (by decide) ?_
        refine v_iconst C (v := 0) d_Bs_send_61 (by decide) ?_
        refine v_callV C (As := [.int (nI (plc (G.T 7) 0 (G.N 0))), .int 0, .int 0]) (rest := []) h.o cl_Bs rfl w_199 wp_3 (ct_Bs_sendUp h (hcap c_32) (nI (plc (G.T 7) 0 (G.N 0))) 0 0) (Nat.le_of_ble_eq_true rfl) (Nat.le_of_ble_eq_true rfl) w_200 w_1 hy_Bs_sendUp w_197 rfl (Nat.le_of_ble_eq_true rfl) ⟨by decide, by decide⟩ d_Bs_send_62 (fun rv M hp => ?_)
        obtain ⟨rfl, hw⟩ := hp
        refine V.eqst (st' := []) rfl (V.cs (k' := 0) (n' := 0) rfl rfl ?_)
        refine v_iload_n C (i := 1) d_Bs_send_65 rfl rfl ?_
        exact v_iret hQ C rfl d_Bs_send_66 (by omega) (by omega) (by rw [G1.sendR, if_neg c_4, if_neg (by omega), if_pos c_32]; exact ⟨rfl, hw⟩)
      · refine v_bipush C (v := (-2)) d_Bs_send_35 (by decide) ?_
        exact v_iret hQ C rfl d_Bs_send_37 (by omega) (by omega) (by rw [G1.sendR, if_neg c_4, if_neg (by omega), if_neg c_32]; exact ⟨rfl, h⟩)
    · refine V.eqst (st' := [.int (-3)]) rfl (V.cs (k' := 0) (n' := 0) rfl rfl ?_)
      refine v_istore_n C (i := 1) (lv' := [(1, .int (-3)), (0, .ref (ad 0))]) d_Bs_send_14 rfl (by decide) rfl ?_
      refine v_iload_n C (i := 1) d_Bs_send_15 rfl rfl ?_
      refine v_bipush C (v := (-3)) d_Bs_send_16 (by decide) ?_
      refine v_icmp_ne C 24 d_Bs_send_18 (by decide) (fun c_18 => absurd (rfl) c_18) (fun c_18 => ?_)
      refine v_bipush C (v := (-3)) d_Bs_send_21 (by decide) ?_
      exact v_iret hQ C rfl d_Bs_send_23 (by omega) (by omega) (by rw [G1.sendR, if_neg c_4, if_pos heq]; exact ⟨rfl, h⟩)
  · refine v_bipush C (v := (-4)) d_Bs_send_7 (by decide) ?_
    exact v_iret hQ C rfl d_Bs_send_9 (by omega) (by omega) (by rw [G1.sendR, if_pos c_4]; exact ⟨rfl, h⟩)
set_option maxHeartbeats 4000000 in
set_option maxRecDepth 100000 in
theorem ct_Bs_drop {D : va_G} {l : Launch} {cI cZ cR cM : ClassId} {M : Mem} {ad : Nat → Nat} {G : G1} (h : R1 cI cR cM M ad G) (hn : G.N 0 ≤ 120) (hrl : ∀ j, j < G.N 0 → rlen G j ≤ 200) : Ct TT D cls (tyL cI cZ cR cM) l y_Bs_drop b_Bs_drop 1 (some .int) 3 64 0 0 [.ref (ad 0)] M (fun rv M' => (G.I 1 = 0 ∧ rv = some (.int (-4)) ∧ R1 cI cR cM M' ad G) ∨ (¬ G.I 1 = 0 ∧ rv = some (.int 0) ∧ ∃ rr, (∀ j, G.T 7 j ≠ 1 → rr j = G.R j) ∧ R1 cI cR cM M' ad (G.bk rr))) := by
  refine ct_of "BlockTargetSession" rfl (by decide) (Nat.le_of_ble_eq_true rfl) ?_
  intro Z hl hD hnm hQ C
  subst hl
  subst hD
  show V cls 1 (rmOf 3 64 0 0) Z 0 [(0, .ref (ad 0))] [] M 0 0
  refine v_aload_n C (i := 0) d_Bs_drop_0 rfl rfl ?_
  refine v_get C (v := .int (G.I 1)) in_Bs h.o cl_Bs 6 (by decide) w_109 rfl rfl d_Bs_drop_1 ?_
  refine v_if_ne C 10 d_Bs_drop_4 (by decide) (fun c_4 => ?_) (fun c_4 => ?_)
  · refine v_aload_n C (i := 0) d_Bs_drop_10 rfl rfl ?_
    refine v_callV C (As := []) (rest := []) h.o cl_Bs rfl w_223 wp_5 (ct_Bs_breakSession h hn hrl) (Nat.le_of_ble_eq_true rfl) (Nat.le_of_ble_eq_true rfl) w_224 w_1 hy_Bs_breakSession w_221 rfl (Nat.le_of_ble_eq_true rfl) ⟨by decide, by decide⟩ d_Bs_drop_11 (fun rv M hp => ?_)
    obtain ⟨rfl, rr, hrr, hw⟩ := hp
    refine V.eqst (st' := []) rfl (V.cs (k' := 0) (n' := 0) rfl rfl ?_)
    refine v_iconst C (v := 0) d_Bs_drop_14 (by decide) ?_
    exact v_iret hQ C rfl d_Bs_drop_15 (by omega) (by omega) (Or.inr ⟨c_4, rfl, rr, hrr, hw⟩)
  · refine v_bipush C (v := (-4)) d_Bs_drop_7 (by decide) ?_
    exact v_iret hQ C rfl d_Bs_drop_9 (by omega) (by omega) (Or.inl ⟨c_4, rfl, h⟩)
set_option maxHeartbeats 4000000 in
set_option maxRecDepth 100000 in
theorem ct_Bs_crash {D : va_G} {l : Launch} {cI cZ cR cM : ClassId} {M : Mem} {ad : Nat → Nat} {G : G1} (h : R1 cI cR cM M ad G) (hn : G.N 0 ≤ 120) (hrl : ∀ j, j < G.N 0 → rlen G j ≤ 200) : Ct TT D cls (tyL cI cZ cR cM) l y_Bs_crash b_Bs_crash 1 (some .int) 3 64 0 0 [.ref (ad 0)] M (fun rv M' => rv = some (.int 0) ∧ ((G.I 1 = 0 ∧ R1 cI cR cM M' ad (G.sN 1 0)) ∨ (¬ G.I 1 = 0 ∧ ∃ rr, (∀ j, G.T 7 j ≠ 1 → rr j = G.R j) ∧ R1 cI cR cM M' ad ((G.bk rr).sN 1 0)))) := by
  refine ct_of "BlockTargetSession" rfl (by decide) (Nat.le_of_ble_eq_true rfl) ?_
  intro Z hl hD hnm hQ C
  subst hl
  subst hD
  show V cls 1 (rmOf 3 64 0 0) Z 0 [(0, .ref (ad 0))] [] M 0 0
  refine v_aload_n C (i := 0) d_Bs_crash_0 rfl rfl ?_
  refine v_get C (v := .int (G.I 1)) in_Bs h.o cl_Bs 6 (by decide) w_109 rfl rfl d_Bs_crash_1 ?_
  refine v_if_eq C 11 d_Bs_crash_4 (by decide) (fun c_4 => ?_) (fun c_4 => ?_)
  · refine v_aload_n C (i := 0) d_Bs_crash_11 rfl rfl ?_
    refine v_get C (v := .ref (ad 1)) in_Bs h.o cl_Bs 1 (by decide) w_104 rfl rfl d_Bs_crash_12 ?_
    refine v_callV C (As := []) (rest := []) h.st cl_St rfl w_309 w_310 (ct_St_loseCache h) (Nat.le_of_ble_eq_true rfl) (Nat.le_of_ble_eq_true rfl) w_311 w_5 hy_St_loseCache w_308 rfl (Nat.le_of_ble_eq_true rfl) ⟨by decide, by decide⟩ d_Bs_crash_15 (fun rv M hp => ?_)
    obtain ⟨rfl, hz⟩ := hp
    refine V.eqst (st' := []) rfl (V.cs (k' := 0) (n' := 0) rfl rfl ?_)
    refine v_iconst C (v := 0) d_Bs_crash_18 (by decide) ?_
    exact v_iret hQ C rfl d_Bs_crash_19 (by omega) (by omega) ⟨rfl, Or.inl ⟨c_4, hz⟩⟩
  · refine v_aload_n C (i := 0) d_Bs_crash_7 rfl rfl ?_
    refine v_callV C (As := []) (rest := []) h.o cl_Bs rfl w_223 wp_5 (ct_Bs_breakSession h hn hrl) (Nat.le_of_ble_eq_true rfl) (Nat.le_of_ble_eq_true rfl) w_224 w_1 hy_Bs_breakSession w_221 rfl (Nat.le_of_ble_eq_true rfl) ⟨by decide, by decide⟩ d_Bs_crash_8 (fun rv M hp => ?_)
    obtain ⟨rfl, rr, hrr, hw⟩ := hp
    refine V.eqst (st' := []) rfl (V.cs (k' := 0) (n' := 0) rfl rfl ?_)
    refine v_aload_n C (i := 0) d_Bs_crash_11 rfl rfl ?_
    refine v_get C (v := .ref (ad 1)) in_Bs hw.o cl_Bs 1 (by decide) w_104 rfl rfl d_Bs_crash_12 ?_
    refine v_callV C (As := []) (rest := []) hw.st cl_St rfl w_309 w_310 (ct_St_loseCache hw) (Nat.le_of_ble_eq_true rfl) (Nat.le_of_ble_eq_true rfl) w_311 w_5 hy_St_loseCache w_308 rfl (Nat.le_of_ble_eq_true rfl) ⟨by decide, by decide⟩ d_Bs_crash_15 (fun rv M hp => ?_)
    obtain ⟨rfl, hz⟩ := hp
    refine V.eqst (st' := []) rfl (V.cs (k' := 0) (n' := 0) rfl rfl ?_)
    refine v_iconst C (v := 0) d_Bs_crash_18 (by decide) ?_
    exact v_iret hQ C rfl d_Bs_crash_19 (by omega) (by omega) ⟨rfl, Or.inr ⟨c_4, rr, hrr, hz⟩⟩
set_option maxHeartbeats 4000000 in
set_option maxRecDepth 100000 in
theorem ct_Bs_login {D : va_G} {l : Launch} {cI cZ cR cM : ClassId} {M : Mem} {ad : Nat → Nat} {G : G1} (h : R1 cI cR cM M ad G) (hn : G.N 0 ≤ 120) : Ct TT D cls (tyL cI cZ cR cM) l y_Bs_login b_Bs_login 1 (some .int) 1 23 0 0 [.ref (ad 0)] M (fun rv M' => (¬ G.I 1 = 0 ∧ rv = some (.int (-1)) ∧ R1 cI cR cM M' ad G) ∨ (G.I 1 = 0 ∧ rv = some (.int (nI (cnt (G.T 7) 0 (G.N 0)))) ∧ R1 cI cR cM M' ad G.bg)) := by
  refine ct_of "BlockTargetSession" rfl (by decide) (Nat.le_of_ble_eq_true rfl) ?_
  intro Z hl hD hnm hQ C
  subst hl
  subst hD
  show V cls 1 (rmOf 1 23 0 0) Z 0 [(0, .ref (ad 0))] [] M 0 0
  refine v_aload_n C (i := 0) d_Bs_login_0 rfl rfl ?_
  refine v_get C (v := .int (G.I 1)) in_Bs h.o cl_Bs 6 (by decide) w_109 rfl rfl d_Bs_login_1 ?_
  refine v_if_eq C 9 d_Bs_login_4 (by decide) (fun c_4 => ?_) (fun c_4 => ?_)
  · refine v_aload_n C (i := 0) d_Bs_login_9 rfl rfl ?_
    refine v_callV C (As := []) (rest := []) h.o cl_Bs rfl w_101 wp_0 (ct_Bs_beginSession h) (Nat.le_of_ble_eq_true rfl) (Nat.le_of_ble_eq_true rfl) w_102 w_1 hy_Bs_beginSession w_99 rfl (Nat.le_of_ble_eq_true rfl) ⟨by decide, by decide⟩ d_Bs_login_10 (fun rv M hp => ?_)
    obtain ⟨rfl, hw⟩ := hp
    refine V.eqst (st' := []) rfl (V.cs (k' := 0) (n' := 0) rfl rfl ?_)
    refine v_aload_n C (i := 0) d_Bs_login_13 rfl rfl ?_
    refine v_iconst C (v := 0) d_Bs_login_14 (by decide) ?_
    refine v_callV C (As := [.int 0]) (rest := []) hw.o cl_Bs rfl w_318 wp_15 (ct_Bs_requestsIn hw hn 0) (Nat.le_of_ble_eq_true rfl) (Nat.le_of_ble_eq_true rfl) w_319 w_1 hy_Bs_requestsIn w_316 rfl (Nat.le_of_ble_eq_true rfl) ⟨by decide, by decide⟩ d_Bs_login_15 (fun rv M hp => ?_)
    obtain ⟨rfl, rfl⟩ := hp
    refine V.eqst (st' := [.int (nI (cnt (G.bg.T 7) 0 (G.bg.N 0)))]) rfl (V.cs (k' := 0) (n' := 0) rfl rfl ?_)
    exact v_iret hQ C rfl d_Bs_login_18 (by omega) (by omega) (Or.inr ⟨c_4, rfl, hw⟩)
  · refine v_iconst C (v := (-1)) d_Bs_login_7 (by decide) ?_
    exact v_iret hQ C rfl d_Bs_login_8 (by omega) (by omega) (Or.inl ⟨c_4, rfl, h⟩)
set_option maxHeartbeats 4000000 in
set_option maxRecDepth 100000 in
theorem ct_Bs_flush {D : va_G} {l : Launch} {cI cZ cR cM : ClassId} {M : Mem} {ad : Nat → Nat} {G : G1} (h : R1 cI cR cM M ad G) (hc : cOK G) : Ct TT D cls (tyL cI cZ cR cM) l y_Bs_flush b_Bs_flush 1 (some .int) 1 22 0 0 [.ref (ad 0)] M (fun rv M' => ∃ z : Int32, rv = some (.int z) ∧ ((G.N 1 = 0 ∧ z = -3 ∧ R1 cI cR cM M' ad G.wb) ∨ (0 < G.N 1 ∧ z = G.T 1 0 ∧ R1 cI cR cM M' ad G.wb))) := by
  refine ct_of "BlockTargetSession" rfl (by decide) (Nat.le_of_ble_eq_true rfl) ?_
  intro Z hl hD hnm hQ C
  subst hl
  subst hD
  show V cls 1 (rmOf 1 22 0 0) Z 0 [(0, .ref (ad 0))] [] M 0 0
  refine v_aload_n C (i := 0) d_Bs_flush_0 rfl rfl ?_
  refine v_get C (v := .ref (ad 1)) in_Bs h.o cl_Bs 1 (by decide) w_104 rfl rfl d_Bs_flush_1 ?_
  refine v_callV C (As := []) (rest := []) h.st cl_St rfl w_261 w_262 (ct_St_writeBackFirst h hc) (Nat.le_of_ble_eq_true rfl) (Nat.le_of_ble_eq_true rfl) w_263 w_5 hy_St_writeBackFirst w_324 rfl (Nat.le_of_ble_eq_true rfl) ⟨by decide, by decide⟩ d_Bs_flush_4 (fun rv M hp => ?_)
  obtain ⟨z, rfl, hz⟩ : ∃ z : Int32, rv = some (.int z) ∧ ((G.N 1 = 0 ∧ z = -3 ∧ R1 cI cR cM M ad G.wb) ∨ (0 < G.N 1 ∧ z = G.T 1 0 ∧ R1 cI cR cM M ad G.wb)) := by
    rcases hp with ⟨a, e, q⟩ | ⟨a, e, q⟩
    · exact ⟨_, e, Or.inl ⟨a, rfl, q⟩⟩
    · exact ⟨_, e, Or.inr ⟨a, rfl, q⟩⟩
  refine V.eqst (st' := [.int z]) rfl (V.cs (k' := 0) (n' := 0) rfl rfl ?_)
  exact v_iret hQ C rfl d_Bs_flush_7 (by omega) (by omega) ⟨z, rfl, hz⟩
set_option maxHeartbeats 4000000 in
set_option maxRecDepth 100000 in
theorem ct_Bs_state {D : va_G} {l : Launch} {cI cZ cR cM : ClassId} {M : Mem} {ad : Nat → Nat} {G : G1} (h : R1 cI cR cM M ad G) (hn : G.N 0 ≤ 120) (x : Int32) : Ct TT D cls (tyL cI cZ cR cM) l y_Bs_state b_Bs_state 3 (some .int) 1 21 0 0 [.ref (ad 0), .int x] M (fun rv M' => M' = M ∧ (((x < 0 ∨ nI (G.N 0) ≤ x) ∧ rv = some (.int (-1))) ∨ ∃ q, q < G.N 0 ∧ x = nI q ∧ rv = some (.int (G.T 7 q)))) := by
  refine ct_of "BlockTargetSession" rfl (by decide) (Nat.le_of_ble_eq_true rfl) ?_
  intro Z hl hD hnm hQ C
  subst hl
  subst hD
  show V cls 3 (rmOf 1 21 0 0) Z 0 [(0, .ref (ad 0)), (1, .int x)] [] M 0 0
  refine v_aload_n C (i := 0) d_Bs_state_0 rfl rfl ?_
  refine v_iload_n C (i := 1) d_Bs_state_1 rfl rfl ?_
  refine v_callV C (As := [.int x]) (rest := []) h.o cl_Bs rfl w_242 wp_7 (ct_Bs_requestAt h hn x) (Nat.le_of_ble_eq_true rfl) (Nat.le_of_ble_eq_true rfl) w_243 w_1 hy_Bs_requestAt w_240 rfl (Nat.le_of_ble_eq_true rfl) ⟨by decide, by decide⟩ d_Bs_state_2 (fun rv M hp => ?_)
  obtain ⟨rfl, hp⟩ := hp
  rcases hp with ⟨hx, rfl⟩ | ⟨q, hqn, rfl, rfl⟩
  · refine V.eqst (st' := [.null]) rfl (V.cs (k' := 0) (n' := 0) rfl rfl ?_)
    refine v_astore_nN C (i := 2) (lv' := [(2, .null), (0, .ref (ad 0)), (1, .int x)]) d_Bs_state_5 rfl (by decide) rfl ?_
    refine v_aload_nN C (i := 2) d_Bs_state_6 rfl rfl ?_
    refine v_ifnonnullN C d_Bs_state_7 ?_
    refine v_iconst C (v := (-1)) d_Bs_state_10 (by decide) ?_
    refine v_goto C 18 d_Bs_state_11 (by decide) ?_
    exact v_iret hQ C rfl d_Bs_state_18 (by omega) (by omega) ⟨rfl, Or.inl ⟨hx, rfl⟩⟩
  · refine V.eqst (st' := [.ref (ad (30 + 2 * q))]) rfl (V.cs (k' := 0) (n' := 0) rfl rfl ?_)
    refine v_astore_n C (i := 2) (lv' := [(2, .ref (ad (30 + 2 * q))), (0, .ref (ad 0)), (1, .int (nI q))]) d_Bs_state_5 rfl (by decide) rfl ?_
    refine v_aload_n C (i := 2) d_Bs_state_6 rfl rfl ?_
    refine v_ifnonnull C 14 d_Bs_state_7 (by decide) ?_
    refine v_aload_n C (i := 2) d_Bs_state_14 rfl rfl ?_
    refine v_get C (v := .int ((G.T 7) q)) in_Rq (h.rq q hqn) cl_Rq 5 (by decide) w_167 rfl rfl d_Bs_state_15 ?_
    exact v_iret hQ C rfl d_Bs_state_18 (by omega) (by omega) ⟨rfl, Or.inr ⟨q, hqn, rfl, rfl⟩⟩
set_option maxHeartbeats 4000000 in
set_option maxRecDepth 100000 in
theorem ct_Bs_result {D : va_G} {l : Launch} {cI cZ cR cM : ClassId} {M : Mem} {ad : Nat → Nat} {G : G1} (h : R1 cI cR cM M ad G) (hn : G.N 0 ≤ 120) (hr : ∀ q, q < G.N 0 → rOK G q) (x y : Int32) : Ct TT D cls (tyL cI cZ cR cM) l y_Bs_result b_Bs_result 4 (some .long) 1 21 0 0 [.ref (ad 0), .int x, .int y] M (fun rv M' => M' = M ∧ (((x < 0 ∨ nI (G.N 0) ≤ x) ∧ rv = some (.long (-1000000000000))) ∨ ∃ q, q < G.N 0 ∧ x = nI q ∧ (((¬ G.T 3 q = 1 ∨ ¬ G.T 7 q = 2) ∧ rv = some (.long (-1000000000000))) ∨ (G.T 3 q = 1 ∧ G.T 7 q = 2 ∧ (((y < 0 ∨ ¬ y < G.T 5 q) ∧ rv = some (.long (-1000000000000))) ∨ ∃ k, k < cN G q ∧ y = nI k ∧ rv = some (.long (G.R q k).toInt64)))))) := by
  refine ct_of "BlockTargetSession" rfl (by decide) (Nat.le_of_ble_eq_true rfl) ?_
  intro Z hl hD hnm hQ C
  subst hl
  subst hD
  show V cls 4 (rmOf 1 21 0 0) Z 0 [(0, .ref (ad 0)), (1, .int x), (2, .int y)] [] M 0 0
  refine v_aload_n C (i := 0) d_Bs_result_0 rfl rfl ?_
  refine v_iload_n C (i := 1) d_Bs_result_1 rfl rfl ?_
  refine v_callV C (As := [.int x]) (rest := []) h.o cl_Bs rfl w_242 wp_7 (ct_Bs_requestAt h hn x) (Nat.le_of_ble_eq_true rfl) (Nat.le_of_ble_eq_true rfl) w_243 w_1 hy_Bs_requestAt w_240 rfl (Nat.le_of_ble_eq_true rfl) ⟨by decide, by decide⟩ d_Bs_result_2 (fun rv M hp => ?_)
  obtain ⟨rfl, hp⟩ := hp
  rcases hp with ⟨hx, rfl⟩ | ⟨q, hqn, rfl, rfl⟩
  · refine V.eqst (st' := [.null]) rfl (V.cs (k' := 0) (n' := 0) rfl rfl ?_)
    refine v_astore_nN C (i := 3) (lv' := [(3, .null), (0, .ref (ad 0)), (1, .int x), (2, .int y)]) d_Bs_result_5 rfl (by decide) rfl ?_
    refine v_aload_nN C (i := 3) d_Bs_result_6 rfl rfl ?_
    refine v_ifnullN C 26 d_Bs_result_7 (by decide) ?_
    refine v_ldc2 C d_Bs_result_26 w_333 ?_
    exact v_lret hQ C rfl d_Bs_result_29 (by omega) (by omega) ⟨rfl, Or.inl ⟨hx, rfl⟩⟩
  · refine V.eqst (st' := [.ref (ad (30 + 2 * q))]) rfl (V.cs (k' := 0) (n' := 0) rfl rfl ?_)
    refine v_astore_n C (i := 3) (lv' := [(3, .ref (ad (30 + 2 * q))), (0, .ref (ad 0)), (1, .int (nI q)), (2, .int y)]) d_Bs_result_5 rfl (by decide) rfl ?_
    refine v_aload_n C (i := 3) d_Bs_result_6 rfl rfl ?_
    refine v_ifnull C d_Bs_result_7 ?_
    refine v_aload_n C (i := 3) d_Bs_result_10 rfl rfl ?_
    refine v_get C (v := .int ((G.T 3) q)) in_Rq (h.rq q hqn) cl_Rq 0 (by decide) w_157 rfl rfl d_Bs_result_11 ?_
    refine v_iconst C (v := 1) d_Bs_result_14 (by decide) ?_
    refine v_icmp_ne C 26 d_Bs_result_15 (by decide) (fun c_15 => ?_) (fun c_15 => ?_)
    · refine v_ldc2 C d_Bs_result_26 w_333 ?_
      exact v_lret hQ C rfl d_Bs_result_29 (by omega) (by omega) ⟨rfl, Or.inr ⟨q, hqn, rfl, Or.inl ⟨Or.inl c_15, rfl⟩⟩⟩
    · refine v_aload_n C (i := 3) d_Bs_result_18 rfl rfl ?_
      refine v_get C (v := .int ((G.T 7) q)) in_Rq (h.rq q hqn) cl_Rq 5 (by decide) w_167 rfl rfl d_Bs_result_19 ?_
      refine v_iconst C (v := 2) d_Bs_result_22 (by decide) ?_
      refine v_icmp_eq C 30 d_Bs_result_23 (by decide) (fun c_23 => ?_) (fun c_23 => ?_)
      · refine v_iload_n C (i := 2) d_Bs_result_30 rfl rfl ?_
        refine v_if_lt C 42 d_Bs_result_31 (by decide) (fun c_31 => ?_) (fun c_31 => ?_)
        · refine v_ldc2 C d_Bs_result_42 w_333 ?_
          exact v_lret hQ C rfl d_Bs_result_45 (by omega) (by omega) ⟨rfl, Or.inr ⟨q, hqn, rfl, Or.inr ⟨c_15, c_23, Or.inl ⟨Or.inl c_31, rfl⟩⟩⟩⟩
        · refine v_iload_n C (i := 2) d_Bs_result_34 rfl rfl ?_
          refine v_aload_n C (i := 3) d_Bs_result_35 rfl rfl ?_
          refine v_get C (v := .int ((G.T 5) q)) in_Rq (h.rq q hqn) cl_Rq 2 (by decide) w_161 rfl rfl d_Bs_result_36 ?_
          refine v_icmp_lt C 46 d_Bs_result_39 (by decide) (fun c_39 => ?_) (fun c_39 => ?_)
          · have hr9 := hr q hqn
            obtain ⟨k, hk, rfl⟩ : ∃ k : Nat, k < cN G q ∧ y = nI k := by
              rcases pk_ix y (n := cN G q) (by have := hr9.f.2.2.2; omega) with z | z | z
              · exact absurd z c_31
              · exact absurd c_39 (by rw [hr9.f.2.1]; exact fun w => absurd z (by have w2 := Int32.lt_iff_toInt_lt.mp w; intro z; have z2 := Int32.le_iff_toInt_le.mp z; omega))
              · exact z
            have hrl9 : rlen G q = cN G q := by unfold rlen cN; rw [if_pos c_15]
            refine v_aload_n C (i := 3) d_Bs_result_46 rfl rfl ?_
            refine v_get C (v := .ref (ad (31 + 2 * q))) in_Rq (h.rq q hqn) cl_Rq 4 (by decide) w_165 rfl rfl d_Bs_result_47 ?_
            refine v_iload_n C (i := 2) d_Bs_result_50 rfl rfl ?_
            refine v_iald C (N := rlen G q) (f := G.R q) 0 (h.rr q hqn) rfl (pk_in k (rlen G q) (by omega) (hN := by have := hr9.f.2.2.2; omega)) d_Bs_result_51 ?_
            refine V.eqst (st' := [.int ((G.R q) k)]) (by rw [show Int32.toNatClampNeg (nI k) = k from pk_cl _ (hx := rfl) (h := by have := hr9.f.2.2.2; omega)]) ?_
            refine v_i2l C d_Bs_result_52 rfl ?_
            exact v_lret hQ C rfl d_Bs_result_53 (by omega) (by omega) ⟨rfl, Or.inr ⟨q, hqn, rfl, Or.inr ⟨c_15, c_23, Or.inr ⟨k, hk, rfl, rfl⟩⟩⟩⟩
          · refine v_ldc2 C d_Bs_result_42 w_333 ?_
            exact v_lret hQ C rfl d_Bs_result_45 (by omega) (by omega) ⟨rfl, Or.inr ⟨q, hqn, rfl, Or.inr ⟨c_15, c_23, Or.inl ⟨Or.inr c_39, rfl⟩⟩⟩⟩
      · refine v_ldc2 C d_Bs_result_26 w_333 ?_
        exact v_lret hQ C rfl d_Bs_result_29 (by omega) (by omega) ⟨rfl, Or.inr ⟨q, hqn, rfl, Or.inl ⟨Or.inr c_23, rfl⟩⟩⟩
set_option maxHeartbeats 4000000 in
set_option maxRecDepth 100000 in
theorem ct_Bs_present {D : va_G} {l : Launch} {cI cZ cR cM : ClassId} {M : Mem} {ad : Nat → Nat} {G : G1} (h : R1 cI cR cM M ad G) (hc : cOK G) (x : Int32) : Ct TT D cls (tyL cI cZ cR cM) l y_Bs_present b_Bs_present 2 (some .long) 2 44 0 0 [.ref (ad 0), .int x] M (fun rv M' => M' = M ∧ ((∃ b, b < 16 ∧ x = nI b ∧ rv = some (.long (G.pv b).toInt64)) ∨ (¬ isB x ∧ rv = some (.long (-1000000000000))))) := by
  refine ct_of "BlockTargetSession" rfl (by decide) (Nat.le_of_ble_eq_true rfl) ?_
  intro Z hl hD hnm hQ C
  subst hl
  subst hD
  show V cls 2 (rmOf 2 44 0 0) Z 0 [(0, .ref (ad 0)), (1, .int x)] [] M 0 0
  refine v_iload_n C (i := 1) d_Bs_present_0 rfl rfl ?_
  refine v_callS C (As := [.int x]) (rest := []) w_145 (ct_Bs_isBlock x) (Nat.le_of_ble_eq_true rfl) (Nat.le_of_ble_eq_true rfl) w_146 w_1 hy_Bs_isBlock w_144 rfl (Nat.le_of_ble_eq_true rfl) ⟨by decide, by decide⟩ d_Bs_present_1 (fun rv M hp => ?_)
  rcases hp with ⟨hb, rfl, rfl⟩ | ⟨hb, rfl, rfl⟩
  · refine V.eqst (st' := [.int 1]) rfl (V.cs (k' := 0) (n' := 0) rfl rfl ?_)
    obtain ⟨b, hb16, rfl⟩ : ∃ b : Nat, b < 16 ∧ x = nI b := by
      rcases pk_ix x (n := 16) (by decide) with z | z | z
      · exact absurd z hb.1
      · exact absurd z hb.2
      · exact z
    refine v_if_eq C 19 d_Bs_present_4 (by decide) (fun c_4 => absurd c_4 (by decide)) (fun c_4 => ?_)
    refine v_aload_n C (i := 0) d_Bs_present_7 rfl rfl ?_
    refine v_get C (v := .ref (ad 1)) in_Bs h.o cl_Bs 1 (by decide) w_104 rfl rfl d_Bs_present_8 ?_
    refine v_iload_n C (i := 1) d_Bs_present_11 rfl rfl ?_
    refine v_callV C (As := [.int (nI b)]) (rest := []) h.st cl_St rfl w_273 w_274 (ct_St_presentInt h hc b hb16) (Nat.le_of_ble_eq_true rfl) (Nat.le_of_ble_eq_true rfl) w_275 w_5 hy_St_presentInt w_272 rfl (Nat.le_of_ble_eq_true rfl) ⟨by decide, by decide⟩ d_Bs_present_12 (fun rv M hp => ?_)
    obtain ⟨rfl, rfl⟩ := hp
    refine V.eqst (st' := [.int (G.pv b)]) rfl (V.cs (k' := 0) (n' := 0) rfl rfl ?_)
    refine v_i2l C d_Bs_present_15 rfl ?_
    refine v_goto C 22 d_Bs_present_16 (by decide) ?_
    exact v_lret hQ C rfl d_Bs_present_22 (by omega) (by omega) ⟨rfl, Or.inl ⟨b, hb16, rfl, rfl⟩⟩
  · refine V.eqst (st' := [.int 0]) rfl (V.cs (k' := 0) (n' := 0) rfl rfl ?_)
    refine v_if_eq C 19 d_Bs_present_4 (by decide) (fun c_4 => ?_) (fun c_4 => absurd (rfl) c_4)
    refine v_ldc2 C d_Bs_present_19 w_333 ?_
    exact v_lret hQ C rfl d_Bs_present_22 (by omega) (by omega) ⟨rfl, Or.inr ⟨hb, rfl⟩⟩
set_option maxHeartbeats 4000000 in
set_option maxRecDepth 100000 in
theorem ct_Bs_disk {D : va_G} {l : Launch} {cI cZ cR cM : ClassId} {M : Mem} {ad : Nat → Nat} {G : G1} (h : R1 cI cR cM M ad G) (hc : cOK G) (x : Int32) : Ct TT D cls (tyL cI cZ cR cM) l y_Bs_disk b_Bs_disk 2 (some .long) 1 20 0 0 [.ref (ad 0), .int x] M (fun rv M' => M' = M ∧ ((∃ b, b < 16 ∧ x = nI b ∧ rv = some (.long (G.T 0 b).toInt64)) ∨ (¬ isB x ∧ rv = some (.long (-1000000000000))))) := by
  refine ct_of "BlockTargetSession" rfl (by decide) (Nat.le_of_ble_eq_true rfl) ?_
  intro Z hl hD hnm hQ C
  subst hl
  subst hD
  show V cls 2 (rmOf 1 20 0 0) Z 0 [(0, .ref (ad 0)), (1, .int x)] [] M 0 0
  refine v_iload_n C (i := 1) d_Bs_disk_0 rfl rfl ?_
  refine v_callS C (As := [.int x]) (rest := []) w_145 (ct_Bs_isBlock x) (Nat.le_of_ble_eq_true rfl) (Nat.le_of_ble_eq_true rfl) w_146 w_1 hy_Bs_isBlock w_144 rfl (Nat.le_of_ble_eq_true rfl) ⟨by decide, by decide⟩ d_Bs_disk_1 (fun rv M hp => ?_)
  rcases hp with ⟨hb, rfl, rfl⟩ | ⟨hb, rfl, rfl⟩
  · refine V.eqst (st' := [.int 1]) rfl (V.cs (k' := 0) (n' := 0) rfl rfl ?_)
    obtain ⟨b, hb16, rfl⟩ : ∃ b : Nat, b < 16 ∧ x = nI b := by
      rcases pk_ix x (n := 16) (by decide) with z | z | z
      · exact absurd z hb.1
      · exact absurd z hb.2
      · exact z
    refine v_if_eq C 20 d_Bs_disk_4 (by decide) (fun c_4 => absurd c_4 (by decide)) (fun c_4 => ?_)
    refine v_aload_n C (i := 0) d_Bs_disk_7 rfl rfl ?_
    refine v_get C (v := .ref (ad 1)) in_Bs h.o cl_Bs 1 (by decide) w_104 rfl rfl d_Bs_disk_8 ?_
    refine v_get C (v := .ref (ad 2)) in_St h.st cl_St 1 (by decide) w_82 rfl rfl d_Bs_disk_11 ?_
    refine v_iload_n C (i := 1) d_Bs_disk_14 rfl rfl ?_
    refine v_iald C (N := 16) (f := G.T 0) 0 h.dk rfl (pk_in b 16 hb16) d_Bs_disk_15 ?_
    refine V.eqst (st' := [.int ((G.T 0) b)]) (by rw [show Int32.toNatClampNeg (nI b) = b from pk_cl _ (hx := rfl)]) ?_
    refine v_i2l C d_Bs_disk_16 rfl ?_
    refine v_goto C 23 d_Bs_disk_17 (by decide) ?_
    exact v_lret hQ C rfl d_Bs_disk_23 (by omega) (by omega) ⟨rfl, Or.inl ⟨b, hb16, rfl, rfl⟩⟩
  · refine V.eqst (st' := [.int 0]) rfl (V.cs (k' := 0) (n' := 0) rfl rfl ?_)
    refine v_if_eq C 20 d_Bs_disk_4 (by decide) (fun c_4 => ?_) (fun c_4 => absurd (rfl) c_4)
    refine v_ldc2 C d_Bs_disk_20 w_333 ?_
    exact v_lret hQ C rfl d_Bs_disk_23 (by omega) (by omega) ⟨rfl, Or.inr ⟨hb, rfl⟩⟩
set_option maxHeartbeats 4000000 in
set_option maxRecDepth 100000 in
theorem ct_Bs_cached {D : va_G} {l : Launch} {cI cZ cR cM : ClassId} {M : Mem} {ad : Nat → Nat} {G : G1} (h : R1 cI cR cM M ad G) (hc : cOK G) (x : Int32) : Ct TT D cls (tyL cI cZ cR cM) l y_Bs_cached b_Bs_cached 2 (some .int) 1 21 0 0 [.ref (ad 0), .int x] M (fun rv M' => M' = M ∧ ∃ z : Int32, rv = some (.int z) ∧ (((x < 0 ∨ nI (G.N 1) ≤ x) ∧ z = -3) ∨ ∃ j, j < G.N 1 ∧ x = nI j ∧ z = G.T 1 j)) := by
  refine ct_of "BlockTargetSession" rfl (by decide) (Nat.le_of_ble_eq_true rfl) ?_
  intro Z hl hD hnm hQ C
  subst hl
  subst hD
  show V cls 2 (rmOf 1 21 0 0) Z 0 [(0, .ref (ad 0)), (1, .int x)] [] M 0 0
  refine v_aload_n C (i := 0) d_Bs_cached_0 rfl rfl ?_
  refine v_get C (v := .ref (ad 1)) in_Bs h.o cl_Bs 1 (by decide) w_104 rfl rfl d_Bs_cached_1 ?_
  refine v_iload_n C (i := 1) d_Bs_cached_4 rfl rfl ?_
  refine v_callV C (As := [.int x]) (rest := []) h.st cl_St rfl w_347 w_348 (ct_St_blockAt h hc x) (Nat.le_of_ble_eq_true rfl) (Nat.le_of_ble_eq_true rfl) w_349 w_5 hy_St_blockAt w_346 rfl (Nat.le_of_ble_eq_true rfl) ⟨by decide, by decide⟩ d_Bs_cached_5 (fun rv M hp => ?_)
  obtain ⟨rfl, hp⟩ := hp
  obtain ⟨z, rfl, hz⟩ : ∃ z : Int32, rv = some (.int z) ∧ (((x < 0 ∨ nI (G.N 1) ≤ x) ∧ z = -3) ∨ ∃ j, j < G.N 1 ∧ x = nI j ∧ z = G.T 1 j) := by
    rcases hp with ⟨a, e⟩ | ⟨j, a, b, e⟩
    · exact ⟨_, e, Or.inl ⟨a, rfl⟩⟩
    · exact ⟨_, e, Or.inr ⟨j, a, b, rfl⟩⟩
  refine V.eqst (st' := [.int z]) rfl (V.cs (k' := 0) (n' := 0) rfl rfl ?_)
  exact v_iret hQ C rfl d_Bs_cached_8 (by omega) (by omega) ⟨rfl, z, rfl, hz⟩
set_option maxHeartbeats 4000000 in
set_option maxRecDepth 100000 in
theorem ct_Bs_waiting {D : va_G} {l : Launch} {cI cZ cR cM : ClassId} {M : Mem} {ad : Nat → Nat} {G : G1} (h : R1 cI cR cM M ad G) (u : Int32) : Ct TT D cls (tyL cI cZ cR cM) l y_Bs_waiting b_Bs_waiting 2 (some .int) 1 21 0 0 [.ref (ad 0), .int u] M (fun rv M' => M' = M ∧ rv = some (.int (nI (G.N (2 + lx u))))) := by
  refine ct_of "BlockTargetSession" rfl (by decide) (Nat.le_of_ble_eq_true rfl) ?_
  intro Z hl hD hnm hQ C
  subst hl
  subst hD
  show V cls 2 (rmOf 1 21 0 0) Z 0 [(0, .ref (ad 0)), (1, .int u)] [] M 0 0
  refine v_aload_n C (i := 0) d_Bs_waiting_0 rfl rfl ?_
  refine v_iload_n C (i := 1) d_Bs_waiting_1 rfl rfl ?_
  refine v_callV C (As := [.int u]) (rest := []) h.o cl_Bs rfl w_215 wp_4 (ct_Bs_lineOf h u) (Nat.le_of_ble_eq_true rfl) (Nat.le_of_ble_eq_true rfl) w_216 w_1 hy_Bs_lineOf w_213 rfl (Nat.le_of_ble_eq_true rfl) ⟨by decide, by decide⟩ d_Bs_waiting_2 (fun rv M hp => ?_)
  obtain ⟨rfl, rfl⟩ := hp
  refine V.eqst (st' := [.ref (ad (6 + 2 * lx u))]) rfl (V.cs (k' := 0) (n' := 0) rfl rfl ?_)
  refine v_get C (v := .int (nI (G.N (2 + lx u)))) in_Ln (h.ln (lx u) (lx_lt u)) cl_Ln 1 (by decide) w_59 rfl rfl d_Bs_waiting_5 ?_
  exact v_iret hQ C rfl d_Bs_waiting_8 (by omega) (by omega) ⟨rfl, rfl⟩
set_option maxHeartbeats 4000000 in
set_option maxRecDepth 100000 in
theorem ct_Bs_damage {D : va_G} {l : Launch} {cI cZ cR cM : ClassId} {M : Mem} {ad : Nat → Nat} {G : G1} (h : R1 cI cR cM M ad G) (u x : Int32) (hsz : G.N (2 + lx u) ≤ cap (lx u)) : Ct TT D cls (tyL cI cZ cR cM) l y_Bs_damage b_Bs_damage 4 (some .int) 1 21 0 0 [.ref (ad 0), .int u, .int x] M (fun rv M' => ((x < 0 ∨ nI (G.N (2 + lx u)) ≤ x) ∧ rv = some (.int (-3)) ∧ R1 cI cR cM M' ad G) ∨ ∃ j, j < G.N (2 + lx u) ∧ x = nI j ∧ rv = some (.int 0) ∧ R1 cI cR cM M' ad (G.dm (lx u) j)) := by
  refine ct_of "BlockTargetSession" rfl (by decide) (Nat.le_of_ble_eq_true rfl) ?_
  intro Z hl hD hnm hQ C
  subst hl
  subst hD
  show V cls 4 (rmOf 1 21 0 0) Z 0 [(0, .ref (ad 0)), (1, .int u), (2, .int x)] [] M 0 0
  refine v_aload_n C (i := 0) d_Bs_damage_0 rfl rfl ?_
  refine v_iload_n C (i := 1) d_Bs_damage_1 rfl rfl ?_
  refine v_callV C (As := [.int u]) (rest := []) h.o cl_Bs rfl w_215 wp_4 (ct_Bs_lineOf h u) (Nat.le_of_ble_eq_true rfl) (Nat.le_of_ble_eq_true rfl) w_216 w_1 hy_Bs_lineOf w_213 rfl (Nat.le_of_ble_eq_true rfl) ⟨by decide, by decide⟩ d_Bs_damage_2 (fun rv M hp => ?_)
  obtain ⟨rfl, rfl⟩ := hp
  refine V.eqst (st' := [.ref (ad (6 + 2 * lx u))]) rfl (V.cs (k' := 0) (n' := 0) rfl rfl ?_)
  refine v_iload_n C (i := 2) d_Bs_damage_5 rfl rfl ?_
  refine v_callV C (As := [.int x]) (rest := []) (h.ln (lx u) (lx_lt u)) cl_Ln rfl w_297 w_298 (ct_Ln_messageAt (sl := ad (7 + 2 * lx u)) (sz := G.N (2 + lx u)) (N := cap (lx u)) (g := fun j => if j < cap (lx u) then some (ad (mb (lx u) + j)) else none) (a := fun j => ad (mb (lx u) + j)) (h.ln (lx u) (lx_lt u)) (h.sl (lx u) (lx_lt u)) (by have := lx_lt u; simp only [cap]; omega) hsz (fun j hj => if_pos hj) x) (Nat.le_of_ble_eq_true rfl) (Nat.le_of_ble_eq_true rfl) w_299 w_2 hy_Ln_messageAt w_296 rfl (Nat.le_of_ble_eq_true rfl) ⟨by decide, by decide⟩ d_Bs_damage_6 (fun rv M hp => ?_)
  obtain ⟨rfl, hp⟩ := hp
  rcases hp with ⟨rfl, hx⟩ | ⟨j, hj, rfl, rfl⟩
  · refine V.eqst (st' := [.null]) rfl (V.cs (k' := 0) (n' := 0) rfl rfl ?_)
    refine v_astore_nN C (i := 3) (lv' := [(3, .null), (0, .ref (ad 0)), (1, .int u), (2, .int x)]) d_Bs_damage_9 rfl (by decide) rfl ?_
    refine v_aload_nN C (i := 3) d_Bs_damage_10 rfl rfl ?_
    refine v_ifnonnullN C d_Bs_damage_11 ?_
    refine v_bipush C (v := (-3)) d_Bs_damage_14 (by decide) ?_
    exact v_iret hQ C rfl d_Bs_damage_16 (by omega) (by omega) (Or.inl ⟨hx, rfl, h⟩)
  · refine V.eqst (st' := [.ref (ad (mb (lx u) + j))]) rfl (V.cs (k' := 0) (n' := 0) rfl rfl ?_)
    refine v_astore_n C (i := 3) (lv' := [(3, .ref (ad (mb (lx u) + j))), (0, .ref (ad 0)), (1, .int u), (2, .int (nI j))]) d_Bs_damage_9 rfl (by decide) rfl ?_
    refine v_aload_n C (i := 3) d_Bs_damage_10 rfl rfl ?_
    refine v_ifnonnull C 17 d_Bs_damage_11 (by decide) ?_
    refine v_aload_n C (i := 3) d_Bs_damage_17 rfl rfl ?_
    refine v_iconst C (v := 1) d_Bs_damage_18 (by decide) ?_
    refine v_put C in_Ms t_Ms to_Ms nm_Ms (h.ms (lx u) j (lx_lt u) (by omega)) cl_Ms 5 (by decide) (fs' := [.int (G.T (10 + 10 * lx u) j), .int (G.T (11 + 10 * lx u) j), .int (G.T (12 + 10 * lx u) j), .int (G.T (13 + 10 * lx u) j), .int (G.T (14 + 10 * lx u) j), .int 1]) w_43 rfl rfl rfl rfl (Nat.le_of_ble_eq_true rfl) rfl d_Bs_damage_19 ?_
    have h : R1 cI cR cM (mset M (ad (mb (lx u) + j)) (ob 1 [.int (G.T (10 + 10 * lx u) j), .int (G.T (11 + 10 * lx u) j), .int (G.T (12 + 10 * lx u) j), .int (G.T (13 + 10 * lx u) j), .int (G.T (14 + 10 * lx u) j), .int 1])) ad (G.dm (lx u) j) := h.pdm (lx u) j (lx_lt u) (by omega)
    revert h
    generalize mset M (ad (mb (lx u) + j)) (ob 1 [.int (G.T (10 + 10 * lx u) j), .int (G.T (11 + 10 * lx u) j), .int (G.T (12 + 10 * lx u) j), .int (G.T (13 + 10 * lx u) j), .int (G.T (14 + 10 * lx u) j), .int 1]) = M
    intro h
    refine v_iconst C (v := 0) d_Bs_damage_22 (by decide) ?_
    exact v_iret hQ C rfl d_Bs_damage_23 (by omega) (by omega) (Or.inr ⟨j, hj, rfl, rfl, h⟩)
set_option maxHeartbeats 4000000 in
set_option maxRecDepth 100000 in
theorem ct_Bs_message {D : va_G} {l : Launch} {cI cZ cR cM : ClassId} {M : Mem} {ad : Nat → Nat} {G : G1} (h : R1 cI cR cM M ad G) (u x f : Int32) (hsz : G.N (2 + lx u) ≤ cap (lx u)) : Ct TT D cls (tyL cI cZ cR cM) l y_Bs_message b_Bs_message 5 (some .int) 1 21 0 0 [.ref (ad 0), .int u, .int x, .int f] M (fun rv M' => M' = M ∧ (((x < 0 ∨ nI (G.N (2 + lx u)) ≤ x) ∧ rv = some (.int (-1))) ∨ ∃ j, j < G.N (2 + lx u) ∧ x = nI j ∧ rv = some (.int (fldA G (lx u) j f)))) := by
  refine ct_of "BlockTargetSession" rfl (by decide) (Nat.le_of_ble_eq_true rfl) ?_
  intro Z hl hD hnm hQ C
  subst hl
  subst hD
  show V cls 5 (rmOf 1 21 0 0) Z 0 [(0, .ref (ad 0)), (1, .int u), (2, .int x), (3, .int f)] [] M 0 0
  refine v_aload_n C (i := 0) d_Bs_message_0 rfl rfl ?_
  refine v_iload_n C (i := 1) d_Bs_message_1 rfl rfl ?_
  refine v_callV C (As := [.int u]) (rest := []) h.o cl_Bs rfl w_215 wp_4 (ct_Bs_lineOf h u) (Nat.le_of_ble_eq_true rfl) (Nat.le_of_ble_eq_true rfl) w_216 w_1 hy_Bs_lineOf w_213 rfl (Nat.le_of_ble_eq_true rfl) ⟨by decide, by decide⟩ d_Bs_message_2 (fun rv M hp => ?_)
  obtain ⟨rfl, rfl⟩ := hp
  refine V.eqst (st' := [.ref (ad (6 + 2 * lx u))]) rfl (V.cs (k' := 0) (n' := 0) rfl rfl ?_)
  refine v_iload_n C (i := 2) d_Bs_message_5 rfl rfl ?_
  refine v_callV C (As := [.int x]) (rest := []) (h.ln (lx u) (lx_lt u)) cl_Ln rfl w_297 w_298 (ct_Ln_messageAt (sl := ad (7 + 2 * lx u)) (sz := G.N (2 + lx u)) (N := cap (lx u)) (g := fun j => if j < cap (lx u) then some (ad (mb (lx u) + j)) else none) (a := fun j => ad (mb (lx u) + j)) (h.ln (lx u) (lx_lt u)) (h.sl (lx u) (lx_lt u)) (by have := lx_lt u; simp only [cap]; omega) hsz (fun j hj => if_pos hj) x) (Nat.le_of_ble_eq_true rfl) (Nat.le_of_ble_eq_true rfl) w_299 w_2 hy_Ln_messageAt w_296 rfl (Nat.le_of_ble_eq_true rfl) ⟨by decide, by decide⟩ d_Bs_message_6 (fun rv M hp => ?_)
  obtain ⟨rfl, hp⟩ := hp
  rcases hp with ⟨rfl, hx⟩ | ⟨j, hj, rfl, rfl⟩
  · refine V.eqst (st' := [.null]) rfl (V.cs (k' := 0) (n' := 0) rfl rfl ?_)
    refine v_astoreN C (i := 4) (lv' := [(4, .null), (0, .ref (ad 0)), (1, .int u), (2, .int x), (3, .int f)]) d_Bs_message_9 (by decide) rfl ?_
    refine v_aloadN C (i := 4) d_Bs_message_11 rfl ?_
    refine v_ifnonnullN C d_Bs_message_13 ?_
    refine v_iconst C (v := (-1)) d_Bs_message_16 (by decide) ?_
    exact v_iret hQ C rfl d_Bs_message_17 (by omega) (by omega) ⟨rfl, Or.inl ⟨hx, rfl⟩⟩
  · refine V.eqst (st' := [.ref (ad (mb (lx u) + j))]) rfl (V.cs (k' := 0) (n' := 0) rfl rfl ?_)
    refine v_astore C (i := 4) (lv' := [(4, .ref (ad (mb (lx u) + j))), (0, .ref (ad 0)), (1, .int u), (2, .int (nI j)), (3, .int f)]) d_Bs_message_9 (by decide) rfl ?_
    refine v_aload C (i := 4) d_Bs_message_11 rfl ?_
    refine v_ifnonnull C 18 d_Bs_message_13 (by decide) ?_
    refine v_iload_n C (i := 3) d_Bs_message_18 rfl rfl ?_
    rcases pk_ix f (n := 5) (by decide) with ht | ht | ⟨jt, hjt, rfl⟩
    · refine v_tableOut C 90 d_Bs_message_19 (Or.inl (ts_neg ht)) (by decide) ?_
      refine v_iconst C (v := (-1)) d_Bs_message_90 (by decide) ?_
      exact v_iret hQ C rfl d_Bs_message_91 (by omega) (by omega) ⟨rfl, Or.inr ⟨j, hj, rfl, by rw [fldA_out _ _ _ (Or.inl ht)]⟩⟩
    · refine v_tableOut C 90 d_Bs_message_19 (Or.inr (ts_big (n := 4) ht (by decide))) (by decide) ?_
      refine v_iconst C (v := (-1)) d_Bs_message_90 (by decide) ?_
      exact v_iret hQ C rfl d_Bs_message_91 (by omega) (by omega) ⟨rfl, Or.inr ⟨j, hj, rfl, by rw [fldA_out _ _ _ (Or.inr ht)]⟩⟩
    · rcases (show jt = 0 ∨ jt = 1 ∨ jt = 2 ∨ jt = 3 ∨ jt = 4 by omega) with rfl | rfl | rfl | rfl | rfl
      · refine v_tableIn C 52 d_Bs_message_19 (by decide) (by decide) rfl (by decide) ?_
        refine v_aload C (i := 4) d_Bs_message_52 rfl ?_
        refine v_get C (v := .int (G.T (10 + 10 * lx u) j)) in_Ms (h.ms (lx u) j (lx_lt u) (by omega)) cl_Ms 0 (by decide) w_33 rfl rfl d_Bs_message_54 ?_
        exact v_iret hQ C rfl d_Bs_message_57 (by omega) (by omega) ⟨rfl, Or.inr ⟨j, hj, rfl, rfl⟩⟩
      · refine v_tableIn C 58 d_Bs_message_19 (by decide) (by decide) rfl (by decide) ?_
        refine v_aload C (i := 4) d_Bs_message_58 rfl ?_
        refine v_get C (v := .int (G.T (11 + 10 * lx u) j)) in_Ms (h.ms (lx u) j (lx_lt u) (by omega)) cl_Ms 1 (by decide) w_35 rfl rfl d_Bs_message_60 ?_
        exact v_iret hQ C rfl d_Bs_message_63 (by omega) (by omega) ⟨rfl, Or.inr ⟨j, hj, rfl, rfl⟩⟩
      · refine v_tableIn C 64 d_Bs_message_19 (by decide) (by decide) rfl (by decide) ?_
        refine v_aload C (i := 4) d_Bs_message_64 rfl ?_
        refine v_get C (v := .int (G.T (12 + 10 * lx u) j)) in_Ms (h.ms (lx u) j (lx_lt u) (by omega)) cl_Ms 2 (by decide) w_37 rfl rfl d_Bs_message_66 ?_
        exact v_iret hQ C rfl d_Bs_message_69 (by omega) (by omega) ⟨rfl, Or.inr ⟨j, hj, rfl, rfl⟩⟩
      · refine v_tableIn C 70 d_Bs_message_19 (by decide) (by decide) rfl (by decide) ?_
        refine v_aload C (i := 4) d_Bs_message_70 rfl ?_
        refine v_get C (v := .int (G.T (14 + 10 * lx u) j)) in_Ms (h.ms (lx u) j (lx_lt u) (by omega)) cl_Ms 4 (by decide) w_41 rfl rfl d_Bs_message_72 ?_
        exact v_iret hQ C rfl d_Bs_message_75 (by omega) (by omega) ⟨rfl, Or.inr ⟨j, hj, rfl, rfl⟩⟩
      · refine v_tableIn C 76 d_Bs_message_19 (by decide) (by decide) rfl (by decide) ?_
        refine v_aload C (i := 4) d_Bs_message_76 rfl ?_
        refine v_get C (v := .int (G.T (15 + 10 * lx u) j)) in_Ms (h.ms (lx u) j (lx_lt u) (by omega)) cl_Ms 5 (by decide) w_43 rfl rfl d_Bs_message_78 ?_
        refine v_if_eq C 88 d_Bs_message_81 (by decide) (fun c_81 => ?_) (fun c_81 => ?_)
        · refine v_iconst C (v := 0) d_Bs_message_88 (by decide) ?_
          exact v_iret hQ C rfl d_Bs_message_89 (by omega) (by omega) ⟨rfl, Or.inr ⟨j, hj, rfl, by rw [show fldA G (lx u) j (nI 4) = if G.T (15 + 10 * lx u) j = 0 then 0 else 1 from rfl, if_pos c_81]⟩⟩
        · refine v_iconst C (v := 1) d_Bs_message_84 (by decide) ?_
          refine v_goto C 89 d_Bs_message_85 (by decide) ?_
          exact v_iret hQ C rfl d_Bs_message_89 (by omega) (by omega) ⟨rfl, Or.inr ⟨j, hj, rfl, by rw [show fldA G (lx u) j (nI 4) = if G.T (15 + 10 * lx u) j = 0 then 0 else 1 from rfl, if_neg c_81]⟩⟩
def G1.countA (G : G1) (x : Int32) : Int32 :=
  if x = 0 then nI (G.N 0) else if x = 1 then nI (cnt (G.T 7) 0 (G.N 0)) else if x = 2 then nI (cnt (G.T 7) 1 (G.N 0)) else if x = 3 then nI (cnt (G.T 7) 2 (G.N 0)) else if x = 4 then nI (G.N 1) else if x = 5 then G.I 3 else if x = 6 then G.I 4 else if x = 7 then G.I 5 else if x = 8 then G.I 2 else -1
theorem countA_out (G : G1) {x : Int32} (h : x < 0 ∨ nI 9 ≤ x) : G.countA x = -1 := by
  unfold G1.countA
  rw [if_neg (fun e => by subst e; revert h; decide), if_neg (fun e => by subst e; revert h; decide), if_neg (fun e => by subst e; revert h; decide), if_neg (fun e => by subst e; revert h; decide), if_neg (fun e => by subst e; revert h; decide), if_neg (fun e => by subst e; revert h; decide), if_neg (fun e => by subst e; revert h; decide), if_neg (fun e => by subst e; revert h; decide), if_neg (fun e => by subst e; revert h; decide)]
set_option maxHeartbeats 4000000 in
set_option maxRecDepth 100000 in
theorem ct_Bs_count {D : va_G} {l : Launch} {cI cZ cR cM : ClassId} {M : Mem} {ad : Nat → Nat} {G : G1} (h : R1 cI cR cM M ad G) (hn : G.N 0 ≤ 120) (x : Int32) : Ct TT D cls (tyL cI cZ cR cM) l y_Bs_count b_Bs_count 2 (some .int) 1 23 0 0 [.ref (ad 0), .int x] M (fun rv M' => M' = M ∧ rv = some (.int (G.countA x))) := by
  refine ct_of "BlockTargetSession" rfl (by decide) (Nat.le_of_ble_eq_true rfl) ?_
  intro Z hl hD hnm hQ C
  subst hl
  subst hD
  show V cls 2 (rmOf 1 23 0 0) Z 0 [(0, .ref (ad 0)), (1, .int x)] [] M 0 0
  refine v_iload_n C (i := 1) d_Bs_count_0 rfl rfl ?_
  rcases pk_ix x (n := 9) (by decide) with ht | ht | ⟨jt, hjt, rfl⟩
  · refine v_tableOut C 103 d_Bs_count_1 (Or.inl (ts_neg ht)) (by decide) ?_
    refine v_iconst C (v := (-1)) d_Bs_count_103 (by decide) ?_
    exact v_iret hQ C rfl d_Bs_count_104 (by omega) (by omega) ⟨rfl, by rw [countA_out _ (Or.inl ht)]⟩
  · refine v_tableOut C 103 d_Bs_count_1 (Or.inr (ts_big (n := 8) ht (by decide))) (by decide) ?_
    refine v_iconst C (v := (-1)) d_Bs_count_103 (by decide) ?_
    exact v_iret hQ C rfl d_Bs_count_104 (by omega) (by omega) ⟨rfl, by rw [countA_out _ (Or.inr ht)]⟩
  · rcases (show jt = 0 ∨ jt = 1 ∨ jt = 2 ∨ jt = 3 ∨ jt = 4 ∨ jt = 5 ∨ jt = 6 ∨ jt = 7 ∨ jt = 8 by omega) with rfl | rfl | rfl | rfl | rfl | rfl | rfl | rfl | rfl
    · refine v_tableIn C 52 d_Bs_count_1 (by decide) (by decide) rfl (by decide) ?_
      refine v_aload_n C (i := 0) d_Bs_count_52 rfl rfl ?_
      refine v_get C (v := .int (nI (G.N 0))) in_Bs h.o cl_Bs 3 (by decide) w_106 rfl rfl d_Bs_count_53 ?_
      exact v_iret hQ C rfl d_Bs_count_56 (by omega) (by omega) ⟨rfl, rfl⟩
    · refine v_tableIn C 57 d_Bs_count_1 (by decide) (by decide) rfl (by decide) ?_
      refine v_aload_n C (i := 0) d_Bs_count_57 rfl rfl ?_
      refine v_iconst C (v := 0) d_Bs_count_58 (by decide) ?_
      refine v_callV C (As := [.int 0]) (rest := []) h.o cl_Bs rfl w_318 wp_15 (ct_Bs_requestsIn h hn 0) (Nat.le_of_ble_eq_true rfl) (Nat.le_of_ble_eq_true rfl) w_319 w_1 hy_Bs_requestsIn w_316 rfl (Nat.le_of_ble_eq_true rfl) ⟨by decide, by decide⟩ d_Bs_count_59 (fun rv M hp => ?_)
      obtain ⟨rfl, rfl⟩ := hp
      refine V.eqst (st' := [.int (nI (cnt (G.T 7) 0 (G.N 0)))]) rfl (V.cs (k' := 0) (n' := 0) rfl rfl ?_)
      exact v_iret hQ C rfl d_Bs_count_62 (by omega) (by omega) ⟨rfl, rfl⟩
    · refine v_tableIn C 63 d_Bs_count_1 (by decide) (by decide) rfl (by decide) ?_
      refine v_aload_n C (i := 0) d_Bs_count_63 rfl rfl ?_
      refine v_iconst C (v := 1) d_Bs_count_64 (by decide) ?_
      refine v_callV C (As := [.int 1]) (rest := []) h.o cl_Bs rfl w_318 wp_15 (ct_Bs_requestsIn h hn 1) (Nat.le_of_ble_eq_true rfl) (Nat.le_of_ble_eq_true rfl) w_319 w_1 hy_Bs_requestsIn w_316 rfl (Nat.le_of_ble_eq_true rfl) ⟨by decide, by decide⟩ d_Bs_count_65 (fun rv M hp => ?_)
      obtain ⟨rfl, rfl⟩ := hp
      refine V.eqst (st' := [.int (nI (cnt (G.T 7) 1 (G.N 0)))]) rfl (V.cs (k' := 0) (n' := 0) rfl rfl ?_)
      exact v_iret hQ C rfl d_Bs_count_68 (by omega) (by omega) ⟨rfl, rfl⟩
    · refine v_tableIn C 69 d_Bs_count_1 (by decide) (by decide) rfl (by decide) ?_
      refine v_aload_n C (i := 0) d_Bs_count_69 rfl rfl ?_
      refine v_iconst C (v := 2) d_Bs_count_70 (by decide) ?_
      refine v_callV C (As := [.int 2]) (rest := []) h.o cl_Bs rfl w_318 wp_15 (ct_Bs_requestsIn h hn 2) (Nat.le_of_ble_eq_true rfl) (Nat.le_of_ble_eq_true rfl) w_319 w_1 hy_Bs_requestsIn w_316 rfl (Nat.le_of_ble_eq_true rfl) ⟨by decide, by decide⟩ d_Bs_count_71 (fun rv M hp => ?_)
      obtain ⟨rfl, rfl⟩ := hp
      refine V.eqst (st' := [.int (nI (cnt (G.T 7) 2 (G.N 0)))]) rfl (V.cs (k' := 0) (n' := 0) rfl rfl ?_)
      exact v_iret hQ C rfl d_Bs_count_74 (by omega) (by omega) ⟨rfl, rfl⟩
    · refine v_tableIn C 75 d_Bs_count_1 (by decide) (by decide) rfl (by decide) ?_
      refine v_aload_n C (i := 0) d_Bs_count_75 rfl rfl ?_
      refine v_get C (v := .ref (ad 1)) in_Bs h.o cl_Bs 1 (by decide) w_104 rfl rfl d_Bs_count_76 ?_
      refine v_get C (v := .int (nI (G.N 1))) in_St h.st cl_St 4 (by decide) w_86 rfl rfl d_Bs_count_79 ?_
      exact v_iret hQ C rfl d_Bs_count_82 (by omega) (by omega) ⟨rfl, rfl⟩
    · refine v_tableIn C 83 d_Bs_count_1 (by decide) (by decide) rfl (by decide) ?_
      refine v_aload_n C (i := 0) d_Bs_count_83 rfl rfl ?_
      refine v_get C (v := .int (G.I 3)) in_Bs h.o cl_Bs 8 (by decide) w_111 rfl rfl d_Bs_count_84 ?_
      exact v_iret hQ C rfl d_Bs_count_87 (by omega) (by omega) ⟨rfl, rfl⟩
    · refine v_tableIn C 88 d_Bs_count_1 (by decide) (by decide) rfl (by decide) ?_
      refine v_aload_n C (i := 0) d_Bs_count_88 rfl rfl ?_
      refine v_get C (v := .int (G.I 4)) in_Bs h.o cl_Bs 9 (by decide) w_112 rfl rfl d_Bs_count_89 ?_
      exact v_iret hQ C rfl d_Bs_count_92 (by omega) (by omega) ⟨rfl, rfl⟩
    · refine v_tableIn C 93 d_Bs_count_1 (by decide) (by decide) rfl (by decide) ?_
      refine v_aload_n C (i := 0) d_Bs_count_93 rfl rfl ?_
      refine v_get C (v := .int (G.I 5)) in_Bs h.o cl_Bs 10 (by decide) w_113 rfl rfl d_Bs_count_94 ?_
      exact v_iret hQ C rfl d_Bs_count_97 (by omega) (by omega) ⟨rfl, rfl⟩
    · refine v_tableIn C 98 d_Bs_count_1 (by decide) (by decide) rfl (by decide) ?_
      refine v_aload_n C (i := 0) d_Bs_count_98 rfl rfl ?_
      refine v_get C (v := .int (G.I 2)) in_Bs h.o cl_Bs 7 (by decide) w_110 rfl rfl d_Bs_count_99 ?_
      exact v_iret hQ C rfl d_Bs_count_102 (by omega) (by omega) ⟨rfl, rfl⟩
end
section
theorem tk_cOK {G : G1} (h : cOK G) (x m : Nat) (hx : x < 2) : cOK (G.tk x m) := by
  refine ⟨by rw [tk_N _ _ _ _ (by omega)]; exact h.1, by rw [tk_N _ _ _ _ (by omega), tk_N _ _ _ _ (by omega)]; exact h.2.1, fun j hj => ?_⟩
  rw [tk_N _ _ _ _ (by omega)] at hj
  rw [tk_T _ _ _ _ (by omega)]
  exact h.2.2 j hj
theorem tk_rOK {G : G1} {q : Nat} (h : rOK G q) (x m : Nat) (hx : x < 2) : rOK (G.tk x m) q := by
  obtain ⟨f, c, h1, h2, h3⟩ := h
  exact ⟨f, c, by rw [tk_T _ _ _ _ (by omega)]; exact h1, by rw [tk_T _ _ _ _ (by omega)]; exact h2, h3⟩
set_option maxHeartbeats 4000000 in
set_option maxRecDepth 100000 in
theorem ct_Bs_deliver {D : va_G} {l : Launch} {cI cZ cR cM : ClassId} {M : Mem} {ad : Nat → Nat} {G : G1} (h : R1 cI cR cM M ad G) (u : Int32) (hn : G.N 0 ≤ 120) (hc : cOK G) (hcr : G.N 1 ≤ G.N 4) (hrl : ∀ j, j < G.N 0 → rlen G j ≤ 200) (hsz : G.N (2 + lx u) ≤ cap (lx u)) (hU : ¬ u = 0 → 0 < G.N 2 → ∃ q, G.T 10 0 = nI q ∧ q < G.N 0 ∧ rOK G q ∧ G.N 3 ≤ 12) (hD : u = 0 → 0 < G.N 3 → ∃ q, G.T 20 0 = nI q ∧ q < G.N 0 ∧ (G.T 21 0 = 2 → G.N 2 < 4) ∧ (G.T 21 0 = 3 → ∃ k, G.T 22 0 = nI k ∧ k < rlen G q)) : Ct TT D cls (tyL cI cZ cR cM) l y_Bs_deliver b_Bs_deliver 3 (some .int) 5 117 0 0 [.ref (ad 0), .int u] M (fun rv M' => (G.I 1 = 0 ∧ rv = some (.int (-4)) ∧ R1 cI cR cM M' ad G) ∨ (¬ G.I 1 = 0 ∧ G.N (2 + lx u) = 0 ∧ rv = some (.int (-3)) ∧ R1 cI cR cM M' ad G) ∨ (¬ G.I 1 = 0 ∧ ∃ (ad' : Nat → Nat) (m : Nat), ad' 0 = ad 0 ∧ G.N (2 + lx u) = m + 1 ∧ ((¬ G.T (15 + 10 * lx u) 0 = 0 ∧ rv = some (.int (-5)) ∧ ∃ rr, (∀ j, G.T 7 j ≠ 1 → rr j = G.R j) ∧ R1 cI cR cM M' ad' ((G.tk (lx u) m).bk rr)) ∨ (G.T (15 + 10 * lx u) 0 = 0 ∧ ((¬ u = 0 ∧ ∃ q, G.T 10 0 = nI q ∧ rv = some (.int (G.T (11 + 10 * lx u) 0)) ∧ R1 cI cR cM M' ad' ((G.tk 0 m).wk q (if G.T 11 0 = 1 then G.T 12 0 else 0))) ∨ (u = 0 ∧ ∃ q, G.T 20 0 = nI q ∧ rv = some (.int (G.T (11 + 10 * lx u) 0)) ∧ R1 cI cR cM M' ad' ((G.tk 1 m).tki q (G.T 21 0) (G.T 22 0) (G.T 23 0) (G.T 24 0)))))))) := by
  refine ct_of "BlockTargetSession" rfl (by decide) (Nat.le_of_ble_eq_true rfl) ?_
  intro Z hl hD hnm hQ C
  subst hl
  subst hD
  show V cls 3 (rmOf 5 117 0 0) Z 0 [(0, .ref (ad 0)), (1, .int u)] [] M 0 0
  refine v_aload_n C (i := 0) d_Bs_deliver_0 rfl rfl ?_
  refine v_get C (v := .int (G.I 1)) in_Bs h.o cl_Bs 6 (by decide) w_109 rfl rfl d_Bs_deliver_1 ?_
  refine v_if_ne C 10 d_Bs_deliver_4 (by decide) (fun c_4 => ?_) (fun c_4 => ?_)
  · refine v_aload_n C (i := 0) d_Bs_deliver_10 rfl rfl ?_
    refine v_iload_n C (i := 1) d_Bs_deliver_11 rfl rfl ?_
    refine v_callV C (As := [.int u]) (rest := []) h.o cl_Bs rfl w_215 wp_4 (ct_Bs_lineOf h u) (Nat.le_of_ble_eq_true rfl) (Nat.le_of_ble_eq_true rfl) w_216 w_1 hy_Bs_lineOf w_213 rfl (Nat.le_of_ble_eq_true rfl) ⟨by decide, by decide⟩ d_Bs_deliver_12 (fun rv M hp => ?_)
    obtain ⟨rfl, rfl⟩ := hp
    refine V.eqst (st' := [.ref (ad (6 + 2 * lx u))]) rfl (V.cs (k' := 0) (n' := 0) rfl rfl ?_)
    refine v_callV C (As := []) (rest := []) (h.ln (lx u) (lx_lt u)) cl_Ln rfl w_218 w_219 (ct_Ln_takeOldest (sl := ad (7 + 2 * lx u)) (sz := G.N (2 + lx u)) (N := cap (lx u)) (g := fun j => if j < cap (lx u) then some (ad (mb (lx u) + j)) else none) (a := fun j => ad (mb (lx u) + j)) (h.ln (lx u) (lx_lt u)) (h.sl (lx u) (lx_lt u)) (by have := lx_lt u; simp only [cap]; omega) hsz (fun j hj => if_pos hj) (fun j hj => ⟨_, h.ms (lx u) j (lx_lt u) hj⟩)) (Nat.le_of_ble_eq_true rfl) (Nat.le_of_ble_eq_true rfl) w_220 w_2 hy_Ln_takeOldest w_217 rfl (Nat.le_of_ble_eq_true rfl) ⟨by decide, by decide⟩ d_Bs_deliver_15 (fun rv M hp => ?_)
    rcases hp with ⟨hz, rfl, rfl⟩ | ⟨m, g', hm, rfl, rfl, g1, g2, g3⟩
    · refine V.eqst (st' := [.null]) rfl (V.cs (k' := 0) (n' := 0) rfl rfl ?_)
      refine v_astore_nN C (i := 2) (lv' := [(2, .null), (0, .ref (ad 0)), (1, .int u)]) d_Bs_deliver_18 rfl (by decide) rfl ?_
      refine v_aload_nN C (i := 2) d_Bs_deliver_19 rfl rfl ?_
      refine v_ifnonnullN C d_Bs_deliver_20 ?_
      refine v_bipush C (v := (-3)) d_Bs_deliver_23 (by decide) ?_
      exact v_iret hQ C rfl d_Bs_deliver_25 (by omega) (by omega) (Or.inr (Or.inl ⟨c_4, hz, rfl, h⟩))
    · have hmc : m < cap (lx u) := by omega
      obtain ⟨ad, e0, em, h⟩ := h.tko2 (lx u) m (lx_lt u) hmc g1 g2 g3
      revert h
      generalize mset (mset _ _ _) _ _ = M
      intro h
      refine V.pick (lv' := [(0, .ref (ad 0)), (1, .int u)]) [0, 1] (by rw [e0]; rfl) ?_
      refine V.eqst (st' := [.ref (ad (mb (lx u) + m))]) (by rw [em]; rfl) (V.cs (k' := 0) (n' := 0) rfl rfl ?_)
      have t6 : mf (G.tk (lx u) m) (lx u) m = mf G (lx u) 0 := by
        simp only [mf]
        rw [tk_Tm _ _ _ _ _ (by omega), tk_Tm _ _ _ _ _ (by omega), tk_Tm _ _ _ _ _ (by omega), tk_Tm _ _ _ _ _ (by omega), tk_Tm _ _ _ _ _ (by omega), tk_Tm _ _ _ _ _ (by omega), rot_m]
      have hms : M (ad (mb (lx u) + m)) = some (ob 1 (mf G (lx u) 0)) := by rw [← t6]; exact h.ms (lx u) m (lx_lt u) hmc
      have n0 : (G.tk (lx u) m).N 0 = G.N 0 := tk_N _ _ _ _ (by omega)
      refine v_astore_n C (i := 2) (lv' := [(2, .ref (ad (mb (lx u) + m))), (0, .ref (ad 0)), (1, .int u)]) d_Bs_deliver_18 rfl (by decide) rfl ?_
      refine v_aload_n C (i := 2) d_Bs_deliver_19 rfl rfl ?_
      refine v_ifnonnull C 26 d_Bs_deliver_20 (by decide) ?_
      refine v_aload_n C (i := 2) d_Bs_deliver_26 rfl rfl ?_
      refine v_get C (v := .int (G.T (15 + 10 * lx u) 0)) in_Ms hms cl_Ms 5 (by decide) w_43 rfl rfl d_Bs_deliver_27 ?_
      refine v_if_eq C 40 d_Bs_deliver_30 (by decide) (fun c_30 => ?_) (fun c_30 => ?_)
      · refine v_iload_n C (i := 1) d_Bs_deliver_40 rfl rfl ?_
        refine v_if_eq C 52 d_Bs_deliver_41 (by decide) (fun c_41 => ?_) (fun c_41 => ?_)
        · have hx0 : lx u = 1 := by unfold lx; rw [if_pos c_41]
          rw [hx0] at h hm hmc n0 ⊢
          refine V.pick (lv' := [(2, .ref (ad (14 + m))), (0, .ref (ad 0)), (1, .int u)]) [0, 1, 2] rfl ?_
          obtain ⟨q, eq, hqn, hd, hpc⟩ := hD c_41 (by rw [show G.N 3 = G.N (2 + 1) from rfl, hm]; omega)
          refine v_aload_n C (i := 0) d_Bs_deliver_52 rfl rfl ?_
          refine v_aload_n C (i := 2) d_Bs_deliver_53 rfl rfl ?_
          refine v_callV C (As := [.ref (ad (14 + m))]) (rest := []) h.o cl_Bs rfl w_286 wp_14 (ct_Bs_takeAtInitiator h (by rw [n0]; exact hn) (fun j hj => by
            have z := hrl j (by rw [← n0]; exact hj)
            simp only [rlen] at z ⊢
            rw [tk_T _ _ _ 3 (by decide), tk_T _ _ _ 5 (by decide)]
            exact z) m hmc q (by rw [tk_Tm _ _ _ _ _ (by decide), rot_m]; exact eq) (by rw [n0]; exact hqn) (by rw [tk_Tm _ _ _ _ _ (by decide), rot_m, tk_N _ _ _ _ (by decide)]; exact hd) (by rw [tk_Tm _ _ _ _ _ (by decide), rot_m, tk_Tm _ _ _ _ _ (by decide), rot_m]; intro z; obtain ⟨k, k1, k2⟩ := hpc z; exact ⟨k, k1, by simp only [rlen] at k2 ⊢; rw [tk_T _ _ _ 3 (by decide), tk_T _ _ _ 5 (by decide)]; exact k2⟩)) (Nat.le_of_ble_eq_true rfl) (Nat.le_of_ble_eq_true rfl) w_287 w_1 hy_Bs_takeAtInitiator w_284 rfl (Nat.le_of_ble_eq_true rfl) ⟨by decide, by decide⟩ d_Bs_deliver_54 (fun rv M hp => ?_)
          obtain ⟨rfl, hw⟩ := hp
          refine V.eqst (st' := []) rfl (V.cs (k' := 0) (n' := 0) rfl rfl ?_)
          refine v_aload_n C (i := 2) d_Bs_deliver_57 rfl rfl ?_
          refine v_get C (v := .int (((G.tk 1 m).tki q ((G.tk 1 m).T 21 m) ((G.tk 1 m).T 22 m) ((G.tk 1 m).T 23 m) ((G.tk 1 m).T 24 m)).T 21 m)) in_Ms (hw.ms 1 m (by decide) hmc) cl_Ms 1 (by decide) w_35 rfl rfl d_Bs_deliver_58 ?_
          exact v_iret hQ C rfl d_Bs_deliver_61 (by omega) (by omega) (Or.inr (Or.inr ⟨c_4, ad, m, e0, by rw [hx0]; exact hm, Or.inr ⟨c_30, Or.inr ⟨c_41, q, eq, by rw [hx0, tki_down _ _ _ _ _ _ _ (by decide), tk_Tm _ _ _ _ _ (by decide), rot_m], by rw [tk_Tm _ _ _ _ _ (by decide), tk_Tm _ _ _ _ _ (by decide), tk_Tm _ _ _ _ _ (by decide), tk_Tm _ _ _ _ _ (by decide), rot_m] at hw; exact hw⟩⟩⟩))
        · have hx0 : lx u = 0 := by unfold lx; rw [if_neg c_41]
          rw [hx0] at h hm hmc n0 ⊢
          refine V.pick (lv' := [(2, .ref (ad (10 + m))), (0, .ref (ad 0)), (1, .int u)]) [0, 1, 2] rfl ?_
          obtain ⟨q, eq, hqn, hr, hd⟩ := hU c_41 (by rw [show G.N 2 = G.N (2 + 0) from rfl, hm]; omega)
          refine v_aload_n C (i := 0) d_Bs_deliver_44 rfl rfl ?_
          refine v_aload_n C (i := 2) d_Bs_deliver_45 rfl rfl ?_
          refine v_callV C (As := [.ref (ad (10 + m))]) (rest := []) h.o cl_Bs rfl w_238 wp_6 (ct_Bs_workAtTarget h (by rw [n0]; exact hn) (tk_cOK hc 0 m (by decide)) (by rw [tk_N _ _ _ _ (by decide), tk_N _ _ _ _ (by decide)]; exact hcr) (by rw [tk_N _ _ _ _ (by decide)]; exact hd) m hmc q (by rw [tk_Tm _ _ _ _ _ (by decide), rot_m]; exact eq) (by rw [n0]; exact hqn) (tk_rOK hr 0 m (by decide))) (Nat.le_of_ble_eq_true rfl) (Nat.le_of_ble_eq_true rfl) w_239 w_1 hy_Bs_workAtTarget w_236 rfl (Nat.le_of_ble_eq_true rfl) ⟨by decide, by decide⟩ d_Bs_deliver_46 (fun rv M hp => ?_)
          obtain ⟨rfl, hw⟩ := hp
          refine V.eqst (st' := []) rfl (V.cs (k' := 0) (n' := 0) rfl rfl ?_)
          refine v_goto C 57 d_Bs_deliver_49 (by decide) ?_
          refine v_aload_n C (i := 2) d_Bs_deliver_57 rfl rfl ?_
          refine v_get C (v := .int (((G.tk 0 m).wk q (if (G.tk 0 m).T 11 m = 1 then (G.tk 0 m).T 12 m else 0)).T 11 m)) in_Ms (hw.ms 0 m (by decide) hmc) cl_Ms 1 (by decide) w_35 rfl rfl d_Bs_deliver_58 ?_
          exact v_iret hQ C rfl d_Bs_deliver_61 (by omega) (by omega) (Or.inr (Or.inr ⟨c_4, ad, m, e0, by rw [hx0]; exact hm, Or.inr ⟨c_30, Or.inl ⟨c_41, q, eq, by rw [hx0, wk_up _ _ _ _ (by decide) (by decide), tk_Tm _ _ _ _ _ (by decide), rot_m], by rw [tk_Tm _ _ _ _ _ (by decide), tk_Tm _ _ _ _ _ (by decide), rot_m] at hw; exact hw⟩⟩⟩))
      · refine v_aload_n C (i := 0) d_Bs_deliver_33 rfl rfl ?_
        refine v_callV C (As := []) (rest := []) h.o cl_Bs rfl w_223 wp_5 (ct_Bs_breakSession h (by rw [n0]; exact hn) (fun j hj => by
          have z := hrl j (by rw [← n0]; exact hj)
          simp only [rlen] at z ⊢
          rw [tk_T _ _ _ 3 (by omega), tk_T _ _ _ 5 (by omega)]
          exact z)) (Nat.le_of_ble_eq_true rfl) (Nat.le_of_ble_eq_true rfl) w_224 w_1 hy_Bs_breakSession w_221 rfl (Nat.le_of_ble_eq_true rfl) ⟨by decide, by decide⟩ d_Bs_deliver_34 (fun rv M hp => ?_)
        obtain ⟨rfl, rr, hrr, hw⟩ := hp
        refine V.eqst (st' := []) rfl (V.cs (k' := 0) (n' := 0) rfl rfl ?_)
        refine v_bipush C (v := (-5)) d_Bs_deliver_37 (by decide) ?_
        exact v_iret hQ C rfl d_Bs_deliver_39 (by omega) (by omega) (Or.inr (Or.inr ⟨c_4, ad, m, e0, hm, Or.inl ⟨c_30, rfl, rr, (fun j hj => hrr j (by rw [tk_T _ _ _ 7 (by omega)]; exact hj)), hw⟩⟩))
  · refine v_bipush C (v := (-4)) d_Bs_deliver_7 (by decide) ?_
    exact v_iret hQ C rfl d_Bs_deliver_9 (by omega) (by omega) (Or.inl ⟨c_4, rfl, h⟩)
end
section
theorem R1.dom {cI cR cM : ClassId} {M : Mem} {ad : Nat → Nat} {G : G1} (h : R1 cI cR cM M ad G) (t : Nat) (ht : t < 30 + 2 * G.N 0) : ∃ e, M (ad t) = some e := by
  by_cases h30 : 30 ≤ t
  · obtain ⟨i, hi⟩ : ∃ i, t = 30 + 2 * i ∨ t = 31 + 2 * i := ⟨(t - 30) / 2, by omega⟩
    rcases hi with rfl | rfl
    · exact ⟨_, h.rq i (by omega)⟩
    · exact ⟨_, h.rr i (by omega)⟩
  · by_cases h14 : 14 ≤ t
    · exact ⟨_, by have := h.ms 1 (t - 14) (by decide) (by simp only [cap]; omega); rw [show mb 1 + (t - 14) = t from by simp only [mb]; omega] at this; exact this⟩
    · by_cases h10 : 10 ≤ t
      · exact ⟨_, by have := h.ms 0 (t - 10) (by decide) (by simp only [cap]; omega); rw [show mb 0 + (t - 10) = t from by simp only [mb]; omega] at this; exact this⟩
      · rcases (show t = 0 ∨ t = 1 ∨ t = 2 ∨ t = 3 ∨ t = 4 ∨ t = 5 ∨ t = 6 ∨ t = 7 ∨ t = 8 ∨ t = 9 by omega) with rfl | rfl | rfl | rfl | rfl | rfl | rfl | rfl | rfl | rfl
        · exact ⟨_, h.o⟩
        · exact ⟨_, h.st⟩
        · exact ⟨_, h.dk⟩
        · exact ⟨_, h.cb⟩
        · exact ⟨_, h.cv⟩
        · exact ⟨_, h.rs⟩
        · exact ⟨_, h.ln 0 (by decide)⟩
        · exact ⟨_, h.sl 0 (by decide)⟩
        · exact ⟨_, h.ln 1 (by decide)⟩
        · exact ⟨_, h.sl 1 (by decide)⟩
/-- a new request -/
def G1.addq (G : G1) (k f c v : Int32) : G1 := (va_up G.1 0 (G.N 0 + 1), G.2.1, fun t i => if 3 ≤ t ∧ t ≤ 7 ∧ i = G.N 0 then v6 k f c v 0 0 (t - 3) else G.T t i, va_up G.2.2.2 (G.N 0) (fun _ => 0))
theorem addq_T (G : G1) (k f c v : Int32) (t i : Nat) (h : ¬ (3 ≤ t ∧ t ≤ 7 ∧ i = G.N 0)) : (G.addq k f c v).T t i = G.T t i := if_neg h
theorem addq_Tn (G : G1) (k f c v : Int32) (t : Nat) (h : 3 ≤ t ∧ t ≤ 7) : (G.addq k f c v).T t (G.N 0) = v6 k f c v 0 0 (t - 3) := if_pos ⟨h.1, h.2, rfl⟩
theorem addq_Tt (G : G1) (k f c v : Int32) (t : Nat) (h : ¬ (3 ≤ t ∧ t ≤ 7)) : (G.addq k f c v).T t = G.T t := funext fun i => if_neg (fun z => h ⟨z.1, z.2.1⟩)
theorem R1.add {cI cR cM : ClassId} {M : Mem} {ad : Nat → Nat} {G : G1} (h : R1 cI cR cM M ad G) (hn : G.N 0 < 120) {q a : Nat} (hq : M q = none) (ha : M a = none) (hqa : a ≠ q) (k f c v : Int32) (N : Nat) (hN : N = if k = 1 then c.toNatClampNeg else 0) :
    ∃ ad2 : Nat → Nat, ad2 0 = ad 0 ∧ R1 cI cR cM (mset (mset (mset (mset M q (ob 2 [.int k, .int f, .int c, .int v, .ref a, .int 0])) a (aI cI N (fun _ => 0))) (ad 5) (aQ cR 120 (va_up (fun i => if i < G.N 0 then some (ad (30 + 2 * i)) else none) (G.N 0) (some q)))) (ad 0) (ob 4 [.int (G.I 0), .ref (ad 1), .ref (ad 5), .int (nI (G.N 0 + 1)), .ref (ad 6), .ref (ad 8), .int (G.I 1), .int (G.I 2), .int (G.I 3), .int (G.I 4), .int (G.I 5)])) ad2 (G.addq k f c v) := by
  have nq : ∀ t, t < 30 + 2 * G.N 0 → ad t ≠ q := fun t ht e => by
    obtain ⟨x, hx⟩ := h.dom t ht
    rw [e, hq] at hx
    cases hx
  have na : ∀ t, t < 30 + 2 * G.N 0 → ad t ≠ a := fun t ht e => by
    obtain ⟨x, hx⟩ := h.dom t ht
    rw [e, ha] at hx
    cases hx
  generalize hM2 : mset (mset (mset (mset M q (ob 2 [.int k, .int f, .int c, .int v, .ref a, .int 0])) a (aI cI N (fun _ => 0))) (ad 5) (aQ cR 120 (va_up (fun i => if i < G.N 0 then some (ad (30 + 2 * i)) else none) (G.N 0) (some q)))) (ad 0) (ob 4 [.int (G.I 0), .ref (ad 1), .ref (ad 5), .int (nI (G.N 0 + 1)), .ref (ad 6), .ref (ad 8), .int (G.I 1), .int (G.I 2), .int (G.I 3), .int (G.I 4), .int (G.I 5)]) = M2
  have hk : ∀ s, s < 30 + 2 * G.N 0 → s ≠ 0 → s ≠ 5 → M2 (ad s) = M (ad s) := fun s hs n1 n2 => by
    rw [← hM2, mset_ne (h.inj hs (by omega) n1), mset_ne (h.inj hs (by omega) n2), mset_ne (na s hs), mset_ne (nq s hs)]
  have h5 : M2 (ad 5) = some (aQ cR 120 (va_up (fun i => if i < G.N 0 then some (ad (30 + 2 * i)) else none) (G.N 0) (some q))) := by
    rw [← hM2, mset_ne (h.inj (by omega) (by omega) (by omega)), mset_self]
  have hqM : M2 q = some (ob 2 [.int k, .int f, .int c, .int v, .ref a, .int 0]) := by
    rw [← hM2, mset_ne (Ne.symm (nq 0 (by omega))), mset_ne (Ne.symm (nq 5 (by omega))), mset_ne (Ne.symm hqa), mset_self]
  have haM : M2 a = some (aI cI N (fun _ => 0)) := by
    rw [← hM2, mset_ne (Ne.symm (na 0 (by omega))), mset_ne (Ne.symm (na 5 (by omega))), mset_self]
  let ad2 : Nat → Nat := fun t => if t = 30 + 2 * G.N 0 then q else if t = 31 + 2 * G.N 0 then a else ad t
  have e1 : ∀ t, t < 30 + 2 * G.N 0 → ad2 t = ad t := fun t ht => by
    show (if t = 30 + 2 * G.N 0 then q else if t = 31 + 2 * G.N 0 then a else ad t) = _
    rw [if_neg (by omega), if_neg (by omega)]
  have e2 : ad2 (30 + 2 * G.N 0) = q := if_pos rfl
  have e3 : ad2 (31 + 2 * G.N 0) = a := by
    show (if 31 + 2 * G.N 0 = 30 + 2 * G.N 0 then q else if 31 + 2 * G.N 0 = 31 + 2 * G.N 0 then a else ad (31 + 2 * G.N 0)) = _
    rw [if_neg (by omega), if_pos rfl]
  have n0 : (G.addq k f c v).N 0 = G.N 0 + 1 := va_up_self G.1 0 (G.N 0 + 1)
  have nn : ∀ j, j ≠ 0 → (G.addq k f c v).N j = G.N j := fun j hj => va_up_ne _ _ hj
  have tt : ∀ t, ¬ (3 ≤ t ∧ t ≤ 7) → (G.addq k f c v).T t = G.T t := fun t ht => addq_Tt G k f c v t ht
  refine ⟨ad2, e1 0 (by omega), ?_, ?_, ?_, ?_, ?_, ?_, ?_, ?_, ?_, ?_, ?_, ?_⟩
  · intro t t' ht ht' e
    rw [n0] at ht ht'
    have cs : ∀ s, s < 30 + 2 * (G.N 0 + 1) → s < 30 + 2 * G.N 0 ∨ s = 30 + 2 * G.N 0 ∨ s = 31 + 2 * G.N 0 := fun s hs => by omega
    rcases cs t ht with c1 | rfl | rfl <;> rcases cs t' ht' with c2 | rfl | rfl
    · rw [e1 t c1, e1 t' c2] at e; exact h.1 t t' c1 c2 e
    · rw [e1 t c1, e2] at e; exact absurd e (nq t c1)
    · rw [e1 t c1, e3] at e; exact absurd e (na t c1)
    · rw [e1 t' c2, e2] at e; exact absurd e.symm (nq t' c2)
    · rfl
    · rw [e2, e3] at e; exact absurd e.symm hqa
    · rw [e1 t' c2, e3] at e; exact absurd e.symm (na t' c2)
    · rw [e2, e3] at e; exact absurd e hqa
    · rfl
  · rw [e1 0 (by omega), ← hM2, mset_self]
    simp only [bf]
    rw [e1 1 (by omega), e1 5 (by omega), e1 6 (by omega), e1 8 (by omega), n0]
    rfl
  · rw [e1 1 (by omega), hk 1 (by omega) (by omega) (by omega), h.st, e1 2 (by omega), e1 3 (by omega), e1 4 (by omega), nn 4 (by decide), nn 1 (by decide)]
  · rw [e1 2 (by omega), hk 2 (by omega) (by omega) (by omega), h.dk, tt 0 (by omega)]
  · rw [e1 3 (by omega), hk 3 (by omega) (by omega) (by omega), h.cb, tt 1 (by omega), nn 4 (by decide)]
  · rw [e1 4 (by omega), hk 4 (by omega) (by omega) (by omega), h.cv, tt 2 (by omega), nn 4 (by decide)]
  · rw [e1 5 (by omega), h5, n0]
    congr 2
    congr 6
    funext i
    by_cases ci : i = G.N 0
    · subst ci
      rw [va_up_self, if_pos (by omega), e2]
    · rw [va_up_ne _ _ ci]
      by_cases cj : i < G.N 0
      · rw [if_pos cj, if_pos (by omega), e1 _ (by omega)]
      · rw [if_neg cj, if_neg (by omega)]
  · intro x hx
    rw [e1 _ (by omega), e1 _ (by omega), hk _ (by omega) (by omega) (by omega), h.ln x hx, nn _ (by omega)]
  · intro x hx
    rw [e1 _ (by omega), hk _ (by omega) (by omega) (by omega), h.sl x hx]
    congr 2
    congr 6
    funext j
    by_cases cj : j < cap x
    · rw [if_pos cj, if_pos cj, e1 _ (by simp only [mb, cap] at *; omega)]
    · rw [if_neg cj, if_neg cj]
  · intro x j hx hj
    rw [e1 _ (by simp only [mb, cap] at *; omega), hk _ (by simp only [mb, cap] at *; omega) (by simp only [mb]; omega) (by simp only [mb]; omega), h.ms x j hx hj]
    simp only [mf]
    rw [tt _ (by omega), tt _ (by omega), tt _ (by omega), tt _ (by omega), tt _ (by omega), tt _ (by omega)]
  · intro i hi
    rw [n0] at hi
    by_cases ci : i = G.N 0
    · subst ci
      rw [e2, hqM]
      simp only [rf]
      rw [e3, addq_Tn _ _ _ _ _ 3 (by omega), addq_Tn _ _ _ _ _ 4 (by omega), addq_Tn _ _ _ _ _ 5 (by omega), addq_Tn _ _ _ _ _ 6 (by omega), addq_Tn _ _ _ _ _ 7 (by omega)]
      rfl
    · rw [e1 _ (by omega), hk _ (by omega) (by omega) (by omega), h.rq i (by omega)]
      simp only [rf]
      rw [e1 _ (by omega), addq_T _ _ _ _ _ 3 i (by omega), addq_T _ _ _ _ _ 4 i (by omega), addq_T _ _ _ _ _ 5 i (by omega), addq_T _ _ _ _ _ 6 i (by omega), addq_T _ _ _ _ _ 7 i (by omega)]
  · intro i hi
    rw [n0] at hi
    by_cases ci : i = G.N 0
    · subst ci
      rw [e3, haM, hN]
      simp only [rlen]
      rw [addq_Tn _ _ _ _ _ 3 (by omega), addq_Tn _ _ _ _ _ 5 (by omega)]
      show _ = some (aI cI _ (va_up G.2.2.2 (G.N 0) (fun _ => 0) (G.N 0)))
      rw [va_up_self]
      rfl
    · rw [e1 _ (by omega), hk _ (by omega) (by omega) (by omega), h.rr i (by omega)]
      simp only [rlen]
      rw [addq_T _ _ _ _ _ 3 i (by omega), addq_T _ _ _ _ _ 5 i (by omega)]
      show _ = some (aI cI _ (va_up G.2.2.2 (G.N 0) (fun _ => 0) i))
      rw [va_up_ne _ _ ci]
end
section
set_option maxHeartbeats 4000000 in
set_option maxRecDepth 100000 in
theorem ct_Rq_init {D : va_G} {l : Launch} {cI cZ cR cM : ClassId} {M : Mem} {q : Nat} (k f : Int32) (c : Nat) (hc : c ≤ 3) (v : Int32) (h1 : M q = some (ob 2 [.int 0, .int 0, .int 0, .int 0, .null, .int 0])) : Ct TT D cls (tyL cI cZ cR cM) l y_Rq_init b_Rq_init 5 none 1 24 1 3 [.ref q, .int k, .int f, .int (nI c), .int v] M (fun rv M' => rv = none ∧ ∃ a, M a = none ∧ a ≠ q ∧ M' = mset (mset M q (ob 2 [.int k, .int f, .int (nI c), .int v, .ref a, .int 0])) a (aI cI (if k = 1 then c else 0) (fun _ => 0))) := by
  refine ct_of "BlockTargetSession$Request" rfl (by decide) (Nat.le_of_ble_eq_true rfl) ?_
  intro Z hl hD hnm hQ C
  subst hl
  subst hD
  show V cls 5 (rmOf 1 24 1 3) Z 0 [(0, .ref q), (1, .int k), (2, .int f), (3, .int (nI c)), (4, .int v)] [] M 0 0
  refine v_aload_n C (i := 0) d_Rq_init_0 rfl rfl ?_
  refine v_objInit C w_155 w_15 w_16 (Nat.le_of_ble_eq_true rfl) (Nat.le_of_ble_eq_true rfl) d_Rq_init_1 ?_
  refine v_aload_n C (i := 0) d_Rq_init_4 rfl rfl ?_
  refine v_iconst C (v := 0) d_Rq_init_5 (by decide) ?_
  refine v_put C in_Rq t_Rq to_Rq nm_Rq h1 cl_Rq 5 (by decide) (fs' := [.int 0, .int 0, .int 0, .int 0, .null, .int 0]) w_166 rfl rfl rfl rfl (Nat.le_of_ble_eq_true rfl) rfl d_Rq_init_6 ?_
  refine v_aload_n C (i := 0) d_Rq_init_9 rfl rfl ?_
  refine v_iload_n C (i := 1) d_Rq_init_10 rfl rfl ?_
  refine v_putF C in_Rq t_Rq to_Rq nm_Rq (mset_self _ _ _) cl_Rq 0 (by decide) (fs' := [.int k, .int 0, .int 0, .int 0, .null, .int 0]) w_156 rfl rfl hnm rfl rfl rfl (Nat.le_of_ble_eq_true rfl) rfl d_Rq_init_11 ?_
  rw [mset_set]
  refine v_aload_n C (i := 0) d_Rq_init_14 rfl rfl ?_
  refine v_iload_n C (i := 2) d_Rq_init_15 rfl rfl ?_
  refine v_putF C in_Rq t_Rq to_Rq nm_Rq (mset_self _ _ _) cl_Rq 1 (by decide) (fs' := [.int k, .int f, .int 0, .int 0, .null, .int 0]) w_158 rfl rfl hnm rfl rfl rfl (Nat.le_of_ble_eq_true rfl) rfl d_Rq_init_16 ?_
  rw [mset_set]
  refine v_aload_n C (i := 0) d_Rq_init_19 rfl rfl ?_
  refine v_iload_n C (i := 3) d_Rq_init_20 rfl rfl ?_
  refine v_putF C in_Rq t_Rq to_Rq nm_Rq (mset_self _ _ _) cl_Rq 2 (by decide) (fs' := [.int k, .int f, .int (nI c), .int 0, .null, .int 0]) w_160 rfl rfl hnm rfl rfl rfl (Nat.le_of_ble_eq_true rfl) rfl d_Rq_init_21 ?_
  rw [mset_set]
  refine v_aload_n C (i := 0) d_Rq_init_24 rfl rfl ?_
  refine v_iload C (i := 4) d_Rq_init_25 rfl ?_
  refine v_putF C in_Rq t_Rq to_Rq nm_Rq (mset_self _ _ _) cl_Rq 3 (by decide) (fs' := [.int k, .int f, .int (nI c), .int v, .null, .int 0]) w_162 rfl rfl hnm rfl rfl rfl (Nat.le_of_ble_eq_true rfl) rfl d_Rq_init_27 ?_
  rw [mset_set]
  refine v_aload_n C (i := 0) d_Rq_init_30 rfl rfl ?_
  refine v_iload_n C (i := 1) d_Rq_init_31 rfl rfl ?_
  refine v_iconst C (v := 1) d_Rq_init_32 (by decide) ?_
  refine v_icmp_ne C 40 d_Rq_init_33 (by decide) (fun c_33 => ?_) (fun c_33 => ?_)
  · refine v_iconst C (v := 0) d_Rq_init_40 (by decide) ?_
    refine v_newa C w_98 0 rfl (N := 0) (by decide) (by decide) (by omega) (by decide) (by decide) d_Rq_init_41 (fun q_41 hq_41 oq_41 => ?_)
    refine V.eqst (st' := [.ref q_41, .ref q]) rfl (V.cs (k' := 1) (n' := 0) rfl rfl ?_)
    have hqq : q ≠ q_41 := fr_ne hq_41 (mset_self _ _ _)
    have hq0 : M q_41 = none := by rw [← hq_41, mset_ne (Ne.symm hqq)]
    refine v_putF C in_Rq t_Rq to_Rq nm_Rq ((mset_ne (fr_ne hq_41 (mset_self _ _ _))).trans (mset_self _ _ _)) cl_Rq 4 (by decide) (fs' := [.int k, .int f, .int (nI c), .int v, .ref q_41, .int 0]) w_164 rfl rfl hnm rfl rfl rfl (Nat.le_of_ble_eq_true rfl) rfl d_Rq_init_43 ?_
    rw [mset_comm _ _ _ hqq, mset_set]
    exact v_vret hQ C rfl d_Rq_init_46 (by omega) (by omega) ⟨rfl, q_41, hq0, Ne.symm hqq, by rw [if_neg c_33]; exact mset_comm _ _ _ (Ne.symm hqq)⟩
  · refine v_iload_n C (i := 3) d_Rq_init_36 rfl rfl ?_
    refine v_goto C 41 d_Rq_init_37 (by decide) ?_
    refine v_newa C w_98 0 rfl (N := c) (nI_pos (by omega)) (pk_cl c) (by omega) (by decide) (by show 0 + c ≤ 3; omega) d_Rq_init_41 (fun q_41 hq_41 oq_41 => ?_)
    refine V.eqst (st' := [.ref q_41, .ref q]) rfl (V.cs (k' := 1) (n' := 0 + c) rfl rfl ?_)
    have hqq : q ≠ q_41 := fr_ne hq_41 (mset_self _ _ _)
    have hq0 : M q_41 = none := by rw [← hq_41, mset_ne (Ne.symm hqq)]
    refine v_putF C in_Rq t_Rq to_Rq nm_Rq ((mset_ne (fr_ne hq_41 (mset_self _ _ _))).trans (mset_self _ _ _)) cl_Rq 4 (by decide) (fs' := [.int k, .int f, .int (nI c), .int v, .ref q_41, .int 0]) w_164 rfl rfl hnm rfl rfl rfl (Nat.le_of_ble_eq_true rfl) rfl d_Rq_init_43 ?_
    rw [mset_comm _ _ _ hqq, mset_set]
    exact v_vret hQ C rfl d_Rq_init_46 (by omega) (by omega) ⟨rfl, q_41, hq0, Ne.symm hqq, by rw [if_pos c_33]; exact mset_comm _ _ _ (Ne.symm hqq)⟩
set_option maxHeartbeats 4000000 in
set_option maxRecDepth 100000 in
theorem ct_Bs_addRequest {D : va_G} {l : Launch} {cI cZ cR cM : ClassId} {M : Mem} {ad : Nat → Nat} {G : G1} (h : R1 cI cR cM M ad G) (hn : G.N 0 ≤ 120) (k f : Int32) (c : Nat) (hc3 : c ≤ 3) (v : Int32) : Ct TT D cls (tyL cI cZ cR cM) l y_Bs_addRequest b_Bs_addRequest 6 (some .int) 2 48 2 9 [.ref (ad 0), .int k, .int f, .int (nI c), .int v] M (fun rv M' => (G.N 0 = 120 ∧ rv = some (.int (-2)) ∧ R1 cI cR cM M' ad G) ∨ (G.N 0 < 120 ∧ rv = some (.int (nI (G.N 0))) ∧ ∃ ad', ad' 0 = ad 0 ∧ R1 cI cR cM M' ad' (G.addq k f (nI c) v))) := by
  refine ct_of "BlockTargetSession" rfl (by decide) (Nat.le_of_ble_eq_true rfl) ?_
  intro Z hl hD hnm hQ C
  subst hl
  subst hD
  show V cls 6 (rmOf 2 48 2 9) Z 0 [(0, .ref (ad 0)), (1, .int k), (2, .int f), (3, .int (nI c)), (4, .int v)] [] M 0 0
  refine v_aload_n C (i := 0) d_Bs_addRequest_0 rfl rfl ?_
  refine v_get C (v := .int (nI (G.N 0))) in_Bs h.o cl_Bs 3 (by decide) w_106 rfl rfl d_Bs_addRequest_1 ?_
  refine v_bipush C (v := 120) d_Bs_addRequest_4 (by decide) ?_
  refine v_icmp_lt C 12 d_Bs_addRequest_6 (by decide) (fun c_6 => ?_) (fun c_6 => ?_)
  · have hlt : G.N 0 < 120 := (nI_ltI (by omega) (by decide)).mp c_6
    refine v_aload_n C (i := 0) d_Bs_addRequest_12 rfl rfl ?_
    refine v_get C (v := .int (nI (G.N 0))) in_Bs h.o cl_Bs 3 (by decide) w_106 rfl rfl d_Bs_addRequest_13 ?_
    refine v_istore C (i := 5) (lv' := [(5, .int (nI (G.N 0))), (0, .ref (ad 0)), (1, .int k), (2, .int f), (3, .int (nI c)), (4, .int v)]) d_Bs_addRequest_16 (by decide) rfl ?_
    refine v_aload_n C (i := 0) d_Bs_addRequest_18 rfl rfl ?_
    refine v_get C (v := .ref (ad 5)) in_Bs h.o cl_Bs 2 (by decide) w_105 rfl rfl d_Bs_addRequest_19 ?_
    refine v_iload C (i := 5) d_Bs_addRequest_22 rfl ?_
    refine v_new C (fs := [.int 0, .int 0, .int 0, .int 0, .null, .int 0]) in_Rq t_Rq to_Rq w_17 w_151 w_7 cl_Rq (fun j hj => by rcases (show j = 0 ∨ j = 1 ∨ j = 2 ∨ j = 3 ∨ j = 4 ∨ j = 5 by omega) with rfl | rfl | rfl | rfl | rfl | rfl <;> rfl) (by decide) (by decide) d_Bs_addRequest_24 (fun q_24 hq_24 oq_24 => ?_)
    refine V.eqst (st' := [.ref q_24, .int (nI (G.N 0)), .ref (ad 5)]) rfl (V.cs (k' := 1) (n' := 6) rfl rfl ?_)
    refine v_dup C d_Bs_addRequest_27 rfl ?_
    refine v_iload_n C (i := 1) d_Bs_addRequest_28 rfl rfl ?_
    refine v_iload_n C (i := 2) d_Bs_addRequest_29 rfl rfl ?_
    refine v_iload_n C (i := 3) d_Bs_addRequest_30 rfl rfl ?_
    refine v_iload C (i := 4) d_Bs_addRequest_31 rfl ?_
    refine v_callI C (As := [.int k, .int f, .int (nI c), .int v]) (rest := [.ref q_24, .int (nI (G.N 0)), .ref (ad 5)]) rfl w_153 (ct_Rq_init k f c hc3 v (mset_self _ _ _)) (Nat.le_of_ble_eq_true rfl) (Nat.le_of_ble_eq_true rfl) w_154 w_7 hy_Rq_init w_152 rfl (Nat.le_of_ble_eq_true rfl) ⟨by decide, by decide⟩ d_Bs_addRequest_33 (fun rv M hp => ?_)
    obtain ⟨rfl, a, ha0, haq, rfl⟩ := hp
    rw [mset_set]
    refine V.eqst (st' := [.ref q_24, .int (nI (G.N 0)), .ref (ad 5)]) rfl (V.cs (k' := 2) (n' := 9) rfl rfl ?_)
    have ha : M a = none := by rw [← ha0, mset_ne haq]
    have k5 : (mset (mset M q_24 (ob 2 [.int k, .int f, .int (nI c), .int v, .ref a, .int 0])) a (aI cI (if k = 1 then c else 0) (fun _ => 0))) (ad 5) = some (aQ cR 120 (fun i => if i < G.N 0 then some (ad (30 + 2 * i)) else none)) := by rw [mset_ne (fr_ne ha h.rs), mset_ne (fr_ne hq_24 h.rs)]; exact h.rs
    have k0 : (mset (mset M q_24 (ob 2 [.int k, .int f, .int (nI c), .int v, .ref a, .int 0])) a (aI cI (if k = 1 then c else 0) (fun _ => 0))) (ad 0) = some (ob 4 (bf ad G)) := by rw [mset_ne (fr_ne ha h.o), mset_ne (fr_ne hq_24 h.o)]; exact h.o
    have kq : (mset (mset M q_24 (ob 2 [.int k, .int f, .int (nI c), .int v, .ref a, .int 0])) a (aI cI (if k = 1 then c else 0) (fun _ => 0))) q_24 = some (ob 2 [.int k, .int f, .int (nI c), .int v, .ref a, .int 0]) := by rw [mset_ne (Ne.symm haq), mset_self]
    refine v_astq C (N := 120) (f := fun i => if i < G.N 0 then some (ad (30 + 2 * i)) else none) 2 2 k5 rfl kq cl_Rq (pk_in (G.N 0) 120 (by omega)) d_Bs_addRequest_36 ?_
    rw [show Int32.toNatClampNeg (nI (G.N 0)) = G.N 0 from pk_cl _ (hx := rfl)]
    refine v_aload_n C (i := 0) d_Bs_addRequest_37 rfl rfl ?_
    refine v_dup C d_Bs_addRequest_38 rfl ?_
    refine v_get C (v := .int (nI (G.N 0))) in_Bs ((mset_ne (h.inj (by omega) (by omega) (by decide))).trans k0) cl_Bs 3 (by decide) w_106 rfl rfl d_Bs_addRequest_39 ?_
    refine v_iconst C (v := 1) d_Bs_addRequest_42 (by decide) ?_
    refine v_iadd C d_Bs_addRequest_43 ?_
    refine V.eqst (st' := [.int (nI (G.N 0 + 1)), .ref (ad 0)]) (by rw [nI_1]) ?_
    refine v_put C in_Bs t_Bs to_Bs nm_Bs ((mset_ne (h.inj (by omega) (by omega) (by decide))).trans k0) cl_Bs 3 (by decide) (fs' := [.int (G.I 0), .ref (ad 1), .ref (ad 5), .int (nI (G.N 0 + 1)), .ref (ad 6), .ref (ad 8), .int (G.I 1), .int (G.I 2), .int (G.I 3), .int (G.I 4), .int (G.I 5)]) w_106 rfl rfl rfl rfl (Nat.le_of_ble_eq_true rfl) rfl d_Bs_addRequest_44 ?_
    refine v_iload C (i := 5) d_Bs_addRequest_47 rfl ?_
    exact v_iret hQ C rfl d_Bs_addRequest_49 (by omega) (by omega) (Or.inr ⟨hlt, rfl, h.add hlt hq_24 ha haq k f (nI c) v _ (by rw [pk_cl c])⟩)
  · have hge : ¬ G.N 0 < 120 := fun z => c_6 ((nI_ltI (a := G.N 0) (b := 120) (by omega) (by decide)).mpr z)
    refine v_bipush C (v := (-2)) d_Bs_addRequest_9 (by decide) ?_
    exact v_iret hQ C rfl d_Bs_addRequest_11 (by omega) (by omega) (Or.inl ⟨by omega, rfl, h⟩)
set_option maxHeartbeats 4000000 in
set_option maxRecDepth 100000 in
theorem ct_Bs_write {D : va_G} {l : Launch} {cI cZ cR cM : ClassId} {M : Mem} {ad : Nat → Nat} {G : G1} (h : R1 cI cR cM M ad G) (hn : G.N 0 ≤ 120) (x n v : Int32) : Ct TT D cls (tyL cI cZ cR cM) l y_Bs_write b_Bs_write 4 (some .int) 3 73 2 9 [.ref (ad 0), .int x, .int n, .int v] M (fun rv M' => (¬ isS x n ∧ rv = some (.int (-1)) ∧ R1 cI cR cM M' ad G) ∨ (isS x n ∧ ((G.N 0 = 120 ∧ rv = some (.int (-2)) ∧ R1 cI cR cM M' ad G) ∨ (G.N 0 < 120 ∧ rv = some (.int (nI (G.N 0))) ∧ ∃ ad', ad' 0 = ad 0 ∧ R1 cI cR cM M' ad' (G.addq 0 x n v))))) := by
  refine ct_of "BlockTargetSession" rfl (by decide) (Nat.le_of_ble_eq_true rfl) ?_
  intro Z hl hD hnm hQ C
  subst hl
  subst hD
  show V cls 4 (rmOf 3 73 2 9) Z 0 [(0, .ref (ad 0)), (1, .int x), (2, .int n), (3, .int v)] [] M 0 0
  refine v_iload_n C (i := 1) d_Bs_write_0 rfl rfl ?_
  refine v_iload_n C (i := 2) d_Bs_write_1 rfl rfl ?_
  refine v_callS C (As := [.int x, .int n]) (rest := []) w_142 (ct_Bs_isStretch x n) (Nat.le_of_ble_eq_true rfl) (Nat.le_of_ble_eq_true rfl) w_143 w_1 hy_Bs_isStretch w_141 rfl (Nat.le_of_ble_eq_true rfl) ⟨by decide, by decide⟩ d_Bs_write_2 (fun rv M hp => ?_)
  rcases hp with ⟨hs, rfl, rfl⟩ | ⟨hs, rfl, rfl⟩
  · refine V.eqst (st' := [.int 1]) rfl (V.cs (k' := 0) (n' := 0) rfl rfl ?_)
    obtain ⟨c, hc3, rfl⟩ : ∃ c : Nat, c ≤ 3 ∧ n = nI c := by
      rcases pk_ix n (n := 4) (by decide) with z | z | ⟨c, z, e⟩
      · exact absurd (show n < 1 from Int32.lt_iff_toInt_lt.mpr (by have := ts_neg z; show n.toInt < 1; omega)) hs.2.1
      · exact absurd (show 3 < n from Int32.lt_iff_toInt_lt.mpr (by have := ts_big (n := 3) z (by decide); exact this)) hs.2.2.1
      · exact ⟨c, by omega, e⟩
    refine v_if_ne C 10 d_Bs_write_5 (by decide) (fun c_5 => ?_) (fun c_5 => absurd c_5 (by decide))
    refine v_aload_n C (i := 0) d_Bs_write_10 rfl rfl ?_
    refine v_iconst C (v := 0) d_Bs_write_11 (by decide) ?_
    refine v_iload_n C (i := 1) d_Bs_write_12 rfl rfl ?_
    refine v_iload_n C (i := 2) d_Bs_write_13 rfl rfl ?_
    refine v_iload_n C (i := 3) d_Bs_write_14 rfl rfl ?_
    refine v_callV C (As := [.int 0, .int x, .int (nI c), .int v]) (rest := []) h.o cl_Bs rfl w_149 wp_1 (ct_Bs_addRequest h hn 0 x c hc3 v) (Nat.le_of_ble_eq_true rfl) (Nat.le_of_ble_eq_true rfl) w_150 w_1 hy_Bs_addRequest w_147 rfl (Nat.le_of_ble_eq_true rfl) ⟨by decide, by decide⟩ d_Bs_write_15 (fun rv M hp => ?_)
    obtain ⟨z, rfl, hz⟩ : ∃ z : Int32, rv = some (.int z) ∧ ((G.N 0 = 120 ∧ z = -2 ∧ R1 cI cR cM M ad G) ∨ (G.N 0 < 120 ∧ z = nI (G.N 0) ∧ ∃ ad', ad' 0 = ad 0 ∧ R1 cI cR cM M ad' (G.addq 0 x (nI c) v))) := by
      rcases hp with ⟨a, e, q⟩ | ⟨a, e, q⟩
      · exact ⟨_, e, Or.inl ⟨a, rfl, q⟩⟩
      · exact ⟨_, e, Or.inr ⟨a, rfl, q⟩⟩
    refine V.eqst (st' := [.int z]) rfl (V.cs (k' := 2) (n' := 9) rfl rfl ?_)
    exact v_iret hQ C rfl d_Bs_write_18 (by omega) (by omega) (Or.inr ⟨hs, by
      rcases hz with ⟨a, e, q⟩ | ⟨a, e, q⟩
      · exact Or.inl ⟨a, by rw [e], q⟩
      · exact Or.inr ⟨a, by rw [e], q⟩⟩)
  · refine V.eqst (st' := [.int 0]) rfl (V.cs (k' := 0) (n' := 0) rfl rfl ?_)
    refine v_if_ne C 10 d_Bs_write_5 (by decide) (fun c_5 => absurd (rfl) c_5) (fun c_5 => ?_)
    refine v_iconst C (v := (-1)) d_Bs_write_8 (by decide) ?_
    exact v_iret hQ C rfl d_Bs_write_9 (by omega) (by omega) (Or.inl ⟨hs, rfl, h⟩)
set_option maxHeartbeats 4000000 in
set_option maxRecDepth 100000 in
theorem ct_Bs_read {D : va_G} {l : Launch} {cI cZ cR cM : ClassId} {M : Mem} {ad : Nat → Nat} {G : G1} (h : R1 cI cR cM M ad G) (hn : G.N 0 ≤ 120) (x n : Int32) : Ct TT D cls (tyL cI cZ cR cM) l y_Bs_read b_Bs_read 3 (some .int) 3 73 2 9 [.ref (ad 0), .int x, .int n] M (fun rv M' => (¬ isS x n ∧ rv = some (.int (-1)) ∧ R1 cI cR cM M' ad G) ∨ (isS x n ∧ ((G.N 0 = 120 ∧ rv = some (.int (-2)) ∧ R1 cI cR cM M' ad G) ∨ (G.N 0 < 120 ∧ rv = some (.int (nI (G.N 0))) ∧ ∃ ad', ad' 0 = ad 0 ∧ R1 cI cR cM M' ad' (G.addq 1 x n 0))))) := by
  refine ct_of "BlockTargetSession" rfl (by decide) (Nat.le_of_ble_eq_true rfl) ?_
  intro Z hl hD hnm hQ C
  subst hl
  subst hD
  show V cls 3 (rmOf 3 73 2 9) Z 0 [(0, .ref (ad 0)), (1, .int x), (2, .int n)] [] M 0 0
  refine v_iload_n C (i := 1) d_Bs_read_0 rfl rfl ?_
  refine v_iload_n C (i := 2) d_Bs_read_1 rfl rfl ?_
  refine v_callS C (As := [.int x, .int n]) (rest := []) w_142 (ct_Bs_isStretch x n) (Nat.le_of_ble_eq_true rfl) (Nat.le_of_ble_eq_true rfl) w_143 w_1 hy_Bs_isStretch w_141 rfl (Nat.le_of_ble_eq_true rfl) ⟨by decide, by decide⟩ d_Bs_read_2 (fun rv M hp => ?_)
  rcases hp with ⟨hs, rfl, rfl⟩ | ⟨hs, rfl, rfl⟩
  · refine V.eqst (st' := [.int 1]) rfl (V.cs (k' := 0) (n' := 0) rfl rfl ?_)
    obtain ⟨c, hc3, rfl⟩ : ∃ c : Nat, c ≤ 3 ∧ n = nI c := by
      rcases pk_ix n (n := 4) (by decide) with z | z | ⟨c, z, e⟩
      · exact absurd (show n < 1 from Int32.lt_iff_toInt_lt.mpr (by have := ts_neg z; show n.toInt < 1; omega)) hs.2.1
      · exact absurd (show 3 < n from Int32.lt_iff_toInt_lt.mpr (by have := ts_big (n := 3) z (by decide); exact this)) hs.2.2.1
      · exact ⟨c, by omega, e⟩
    refine v_if_ne C 10 d_Bs_read_5 (by decide) (fun c_5 => ?_) (fun c_5 => absurd c_5 (by decide))
    refine v_aload_n C (i := 0) d_Bs_read_10 rfl rfl ?_
    refine v_iconst C (v := 1) d_Bs_read_11 (by decide) ?_
    refine v_iload_n C (i := 1) d_Bs_read_12 rfl rfl ?_
    refine v_iload_n C (i := 2) d_Bs_read_13 rfl rfl ?_
    refine v_iconst C (v := 0) d_Bs_read_14 (by decide) ?_
    refine v_callV C (As := [.int 1, .int x, .int (nI c), .int 0]) (rest := []) h.o cl_Bs rfl w_149 wp_1 (ct_Bs_addRequest h hn 1 x c hc3 0) (Nat.le_of_ble_eq_true rfl) (Nat.le_of_ble_eq_true rfl) w_150 w_1 hy_Bs_addRequest w_147 rfl (Nat.le_of_ble_eq_true rfl) ⟨by decide, by decide⟩ d_Bs_read_15 (fun rv M hp => ?_)
    obtain ⟨z, rfl, hz⟩ : ∃ z : Int32, rv = some (.int z) ∧ ((G.N 0 = 120 ∧ z = -2 ∧ R1 cI cR cM M ad G) ∨ (G.N 0 < 120 ∧ z = nI (G.N 0) ∧ ∃ ad', ad' 0 = ad 0 ∧ R1 cI cR cM M ad' (G.addq 1 x (nI c) 0))) := by
      rcases hp with ⟨a, e, q⟩ | ⟨a, e, q⟩
      · exact ⟨_, e, Or.inl ⟨a, rfl, q⟩⟩
      · exact ⟨_, e, Or.inr ⟨a, rfl, q⟩⟩
    refine V.eqst (st' := [.int z]) rfl (V.cs (k' := 2) (n' := 9) rfl rfl ?_)
    exact v_iret hQ C rfl d_Bs_read_18 (by omega) (by omega) (Or.inr ⟨hs, by
      rcases hz with ⟨a, e, q⟩ | ⟨a, e, q⟩
      · exact Or.inl ⟨a, by rw [e], q⟩
      · exact Or.inr ⟨a, by rw [e], q⟩⟩)
  · refine V.eqst (st' := [.int 0]) rfl (V.cs (k' := 0) (n' := 0) rfl rfl ?_)
    refine v_if_ne C 10 d_Bs_read_5 (by decide) (fun c_5 => absurd (rfl) c_5) (fun c_5 => ?_)
    refine v_iconst C (v := (-1)) d_Bs_read_8 (by decide) ?_
    exact v_iret hQ C rfl d_Bs_read_9 (by omega) (by omega) (Or.inl ⟨hs, rfl, h⟩)
set_option maxHeartbeats 4000000 in
set_option maxRecDepth 100000 in
theorem ct_Bs_sync {D : va_G} {l : Launch} {cI cZ cR cM : ClassId} {M : Mem} {ad : Nat → Nat} {G : G1} (h : R1 cI cR cM M ad G) (hn : G.N 0 ≤ 120) : Ct TT D cls (tyL cI cZ cR cM) l y_Bs_sync b_Bs_sync 1 (some .int) 3 73 2 9 [.ref (ad 0)] M (fun rv M' => (G.N 0 = 120 ∧ rv = some (.int (-2)) ∧ R1 cI cR cM M' ad G) ∨ (G.N 0 < 120 ∧ rv = some (.int (nI (G.N 0))) ∧ ∃ ad', ad' 0 = ad 0 ∧ R1 cI cR cM M' ad' (G.addq 2 0 0 0))) := by
  refine ct_of "BlockTargetSession" rfl (by decide) (Nat.le_of_ble_eq_true rfl) ?_
  intro Z hl hD hnm hQ C
  subst hl
  subst hD
  show V cls 1 (rmOf 3 73 2 9) Z 0 [(0, .ref (ad 0))] [] M 0 0
  refine v_aload_n C (i := 0) d_Bs_sync_0 rfl rfl ?_
  refine v_iconst C (v := 2) d_Bs_sync_1 (by decide) ?_
  refine v_iconst C (v := 0) d_Bs_sync_2 (by decide) ?_
  refine v_iconst C (v := 0) d_Bs_sync_3 (by decide) ?_
  refine v_iconst C (v := 0) d_Bs_sync_4 (by decide) ?_
  refine v_callV C (As := [.int 2, .int 0, .int 0, .int 0]) (rest := []) h.o cl_Bs rfl w_149 wp_1 (ct_Bs_addRequest h hn 2 0 0 (by decide) 0) (Nat.le_of_ble_eq_true rfl) (Nat.le_of_ble_eq_true rfl) w_150 w_1 hy_Bs_addRequest w_147 rfl (Nat.le_of_ble_eq_true rfl) ⟨by decide, by decide⟩ d_Bs_sync_5 (fun rv M hp => ?_)
  obtain ⟨z, rfl, hz⟩ : ∃ z : Int32, rv = some (.int z) ∧ ((G.N 0 = 120 ∧ z = -2 ∧ R1 cI cR cM M ad G) ∨ (G.N 0 < 120 ∧ z = nI (G.N 0) ∧ ∃ ad', ad' 0 = ad 0 ∧ R1 cI cR cM M ad' (G.addq 2 0 0 0))) := by
    rcases hp with ⟨a, e, q⟩ | ⟨a, e, q⟩
    · exact ⟨_, e, Or.inl ⟨a, rfl, q⟩⟩
    · exact ⟨_, e, Or.inr ⟨a, rfl, q⟩⟩
  refine V.eqst (st' := [.int z]) rfl (V.cs (k' := 2) (n' := 9) rfl rfl ?_)
  exact v_iret hQ C rfl d_Bs_sync_8 (by omega) (by omega) (by
    rcases hz with ⟨a, e, q⟩ | ⟨a, e, q⟩
    · exact Or.inl ⟨a, by rw [e], q⟩
    · exact Or.inr ⟨a, by rw [e], q⟩)
end
section
set_option maxHeartbeats 4000000 in
set_option maxRecDepth 100000 in
theorem ct_Ln_init {D : va_G} {l : Launch} {cI cZ cR cM : ClassId} {M : Mem} {ln : Nat} (N : Nat) (hN : N ≤ 16) (h1 : M ln = some (ob 0 [.null, .int 0])) : Ct TT D cls (tyL cI cZ cR cM) l y_Ln_init b_Ln_init 3 none 2 44 (1 + N) (7 * N) [.ref ln, .int (nI N)] M (fun rv M' => rv = none ∧ ∃ (sl : Nat) (a : Nat → Nat), (∀ b e, M b = some e → b < sl) ∧ (∀ j, j < N → sl < a j) ∧ (∀ j j', j < j' → j' < N → a j < a j') ∧ M' ln = some (ob 0 [.ref sl, .int 0]) ∧ M' sl = some (aQ cM N (fun j => if j < N then some (a j) else none)) ∧ (∀ j, j < N → M' (a j) = some (ob 1 [.int 0, .int 0, .int 0, .int 0, .int 0, .int 0])) ∧ (∀ b e, b ≠ ln → M b = some e → M' b = some e)) := by
  refine ct_of "BlockTargetSession$Line" rfl (by decide) (Nat.le_of_ble_eq_true rfl) ?_
  intro Z hl hD hnm hQ C
  subst hl
  subst hD
  show V cls 3 (rmOf 2 44 (1 + N) (7 * N)) Z 0 [(0, .ref ln), (1, .int (nI N))] [] M 0 0
  refine v_aload_n C (i := 0) d_Ln_init_0 rfl rfl ?_
  refine v_objInit C w_24 w_15 w_16 (Nat.le_of_ble_eq_true rfl) (Nat.le_of_ble_eq_true rfl) d_Ln_init_1 ?_
  refine v_aload_n C (i := 0) d_Ln_init_4 rfl rfl ?_
  refine v_iconst C (v := 0) d_Ln_init_5 (by decide) ?_
  refine v_put C in_Ln t_Ln to_Ln nm_Ln h1 cl_Ln 1 (by decide) (fs' := [.null, .int 0]) w_58 rfl rfl rfl rfl (Nat.le_of_ble_eq_true rfl) rfl d_Ln_init_6 ?_
  rw [mset_id h1]
  refine v_aload_n C (i := 0) d_Ln_init_9 rfl rfl ?_
  refine v_iload_n C (i := 1) d_Ln_init_10 rfl rfl ?_
  refine v_newq C w_25 w_26 3 rfl (N := N) (nI_pos (by omega)) (pk_cl N) (by omega) (by show 0 + 1 ≤ 1 + N; omega) (by show 0 + N ≤ 7 * N; omega) d_Ln_init_11 (fun q_11 hq_11 oq_11 => ?_)
  refine V.eqst (st' := [.ref q_11, .ref ln]) rfl (V.cs (k' := 1) (n' := 0 + N) rfl rfl ?_)
  have oq_11' : ∀ b e, M b = some e → b < q_11 := oq_11
  refine v_putF C in_Ln t_Ln to_Ln nm_Ln ((mset_ne (fr_ne hq_11 h1)).trans h1) cl_Ln 0 (by decide) (fs' := [.ref q_11, .int 0]) w_57 rfl rfl hnm rfl rfl rfl (Nat.le_of_ble_eq_true rfl) rfl d_Ln_init_14 ?_
  refine v_iconst C (v := 0) d_Ln_init_17 (by decide) ?_
  refine v_istore_n C (i := 2) (lv' := [(2, .int 0), (0, .ref ln), (1, .int (nI N))]) d_Ln_init_18 rfl (by decide) rfl ?_
  have nl : ln ≠ q_11 := fr_ne hq_11 h1
  have k1 : (mset (mset M q_11 (aQ cM N (fun _ => none))) ln (ob 0 [.ref q_11, .int 0])) ln = some (ob 0 [.ref q_11, .int 0]) := mset_self _ _ _
  have k2 : (mset (mset M q_11 (aQ cM N (fun _ => none))) ln (ob 0 [.ref q_11, .int 0])) q_11 = some (aQ cM N (fun _ => none)) := (mset_ne (Ne.symm nl)).trans (mset_self _ _ _)
  have k3 : ∀ b e, b ≠ ln → M b = some e → (mset (mset M q_11 (aQ cM N (fun _ => none))) ln (ob 0 [.ref q_11, .int 0])) b = some e := fun b e hb he => by rw [mset_ne hb, mset_ne (fr_ne hq_11 he)]; exact he
  revert k1 k2 k3
  generalize mset (mset M q_11 (aQ cM N (fun _ => none))) ln (ob 0 [.ref q_11, .int 0]) = M1
  intro k1 k2 k3
  have L : ∀ (fu i : Nat) (M1 : Mem) (a : Nat → Nat), N - i < fu → i ≤ N → M1 ln = some (ob 0 [.ref q_11, .int 0]) → M1 q_11 = some (aQ cM N (fun j => if j < i then some (a j) else none)) → (∀ j, j < i → M1 (a j) = some (ob 1 [.int 0, .int 0, .int 0, .int 0, .int 0, .int 0])) → (∀ b e, b ≠ ln → M b = some e → M1 b = some e) → (∀ j, j < i → q_11 < a j) → (∀ j j', j < j' → j' < i → a j < a j') → V cls 3 (rmOf 2 44 (1 + N) (7 * N)) Z 19 [(2, .int (nI i)), (0, .ref ln), (1, .int (nI N))] [] M1 (1 + i) (N + 6 * i) := by
    intro fu
    induction fu with
    | zero => intro i M1 a hf; omega
    | succ fu ih =>
      intro i M1 a hf hi k1 k2 k4 k3 k5 k6
      refine v_iload_n C (i := 2) d_Ln_init_19 rfl rfl ?_
      refine v_iload_n C (i := 1) d_Ln_init_20 rfl rfl ?_
      refine v_icmp_ge C 43 d_Ln_init_21 (by decide) (fun c_21 => ?_) (fun c_21 => ?_)
      · have hi2 : i = N := Nat.le_antisymm hi ((nI_leI (by omega) (by omega)).mp c_21)
        subst hi2
        exact v_vret hQ C rfl d_Ln_init_43 (by omega) (by omega) ⟨rfl, q_11, a, oq_11', k5, k6, k1, k2, k4, k3⟩
      · have hi2 : i < N := Nat.lt_of_not_le (fun z => c_21 ((nI_leI (by omega) (by omega)).mpr z))
        refine v_aload_n C (i := 0) d_Ln_init_24 rfl rfl ?_
        refine v_get C (v := .ref q_11) in_Ln k1 cl_Ln 0 (by decide) w_57 rfl rfl d_Ln_init_25 ?_
        refine v_iload_n C (i := 2) d_Ln_init_28 rfl rfl ?_
        refine v_new C (fs := [.int 0, .int 0, .int 0, .int 0, .int 0, .int 0]) in_Ms t_Ms to_Ms w_25 w_27 w_3 cl_Ms (fun j hj => by rcases (show j = 0 ∨ j = 1 ∨ j = 2 ∨ j = 3 ∨ j = 4 ∨ j = 5 by omega) with rfl | rfl | rfl | rfl | rfl | rfl <;> rfl) (by show 1 + i + 1 ≤ 1 + N; omega) (by show N + 6 * i + 6 ≤ 7 * N; omega) d_Ln_init_29 (fun q_29 hq_29 oq_29 => ?_)
        refine V.eqst (st' := [.ref q_29, .int (nI i), .ref q_11]) rfl (V.cs (k' := 1 + i + 1) (n' := N + 6 * i + 6) rfl rfl ?_)
        refine v_dup C d_Ln_init_32 rfl ?_
        refine v_callIN C (As := []) (rest := [.ref q_29, .int (nI i), .ref q_11]) rfl w_29 (ct_Ms_init (mset_self _ _ _)) (Nat.le_of_ble_eq_true rfl) (Nat.le_of_ble_eq_true rfl) w_30 w_3 hy_Ms_init w_28 rfl (Nat.le_of_ble_eq_true rfl) ⟨by show 1 + i + 1 + 0 ≤ 1 + N; omega, by show N + 6 * i + 6 + 0 ≤ 7 * N; omega⟩ d_Ln_init_33 (fun rv M hp => ?_)
        obtain ⟨rfl, rfl⟩ := hp
        rw [mset_set]
        refine V.eqst (st' := [.ref q_29, .int (nI i), .ref q_11]) rfl (V.cs (k' := 1 + i + 1) (n' := N + 6 * i + 6) rfl rfl ?_)
        refine v_astq C (N := N) (f := fun j => if j < i then some (a j) else none) 3 1 ((mset_ne (fr_ne hq_29 k2)).trans k2) rfl (mset_self _ _ _) cl_Ms (pk_in i N (by omega)) d_Ln_init_36 ?_
        rw [show Int32.toNatClampNeg (nI i) = i from pk_cl _ (hx := rfl)]
        refine v_iinc C (i := 2) (j := 0) (v := nI (i + 1)) (lv' := [(2, .int (nI (i + 1))), (0, .ref ln), (1, .int (nI N))]) d_Ln_init_37 rfl (nI_1 i) (by decide) rfl ?_
        refine v_goto C 19 d_Ln_init_40 (by decide) ?_
        have ef : va_up (fun j => if j < i then some (a j) else none) i (some q_29) = fun j => if j < i + 1 then some (va_up a i q_29 j) else none := by
          funext j
          by_cases cj : j = i
          · subst cj; rw [va_up_self, if_pos (by omega), va_up_self]
          · rw [va_up_ne _ _ cj, va_up_ne _ _ cj]
            by_cases cl : j < i
            · rw [if_pos cl, if_pos (by omega)]
            · rw [if_neg cl, if_neg (by omega)]
        rw [ef]
        have nq : q_11 ≠ q_29 := fr_ne hq_29 k2
        refine V.cs (k' := 1 + (i + 1)) (n' := N + 6 * (i + 1)) (by omega) (by omega) ?_
        refine V.pick (lv' := [(2, .int (nI (i + 1))), (0, .ref ln), (1, .int (nI N))]) [0, 1, 2] rfl ?_
        refine ih (i + 1) _ (va_up a i q_29) (by omega) (by omega) ((mset_ne nl).trans ((mset_ne (fr_ne hq_29 k1)).trans k1)) (mset_self _ _ _) ?_ ?_ ?_ ?_
        · intro j hj
          by_cases cj : j = i
          · subst cj; rw [va_up_self, mset_ne (Ne.symm nq), mset_self]
          · rw [va_up_ne _ _ cj, mset_ne (Nat.ne_of_gt (k5 j (by omega))), mset_ne (fr_ne hq_29 (k4 j (by omega)))]; exact k4 j (by omega)
        · intro b e hb he
          rw [mset_ne (Nat.ne_of_lt (oq_11' b e he)), mset_ne (fr_ne hq_29 (k3 b e hb he))]; exact k3 b e hb he
        · intro j hj
          by_cases cj : j = i
          · subst cj; rw [va_up_self]; exact oq_29 _ _ k2
          · rw [va_up_ne _ _ cj]; exact k5 j (by omega)
        · intro j j' h1 h2
          rw [va_up_ne _ _ (show j ≠ i by omega)]
          by_cases cj : j' = i
          · subst cj; rw [va_up_self]; exact oq_29 _ _ (k4 j (by omega))
          · rw [va_up_ne _ _ cj]; exact k6 j j' h1 (by omega)
  refine V.pick (lv' := [(2, .int (nI 0)), (0, .ref ln), (1, .int (nI N))]) [0, 1, 2] (by rw [nI_0]; rfl) (V.cs (k' := 1 + 0) (n' := N + 6 * 0) rfl (by omega) ?_)
  exact L (N + 1) 0 M1 (fun _ => 0) (by omega) (by omega) k1 (by rw [k2]; congr 2) (fun j hj => absurd hj (Nat.not_lt_zero j)) k3 (fun j hj => absurd hj (Nat.not_lt_zero j)) (fun j j' _ hj => absurd hj (Nat.not_lt_zero j'))
set_option maxHeartbeats 4000000 in
set_option maxRecDepth 100000 in
theorem ct_St_init {D : va_G} {l : Launch} {cI cZ cR cM : ClassId} {M : Mem} {st : Nat} (rm : Nat) (hr : rm ≤ 6) (h1 : M st = some (ob 3 [.int 0, .null, .null, .null, .int 0])) : Ct TT D cls (tyL cI cZ cR cM) l y_St_init b_St_init 2 none 1 24 3 30 [.ref st, .int (nI rm)] M (fun rv M' => rv = none ∧ ∃ dk cb cv : Nat, (∀ b e, b ≠ st → M b = some e → b < dk) ∧ st < dk ∧ dk < cb ∧ cb < cv ∧ M' st = some (ob 3 [.int (nI rm), .ref dk, .ref cb, .ref cv, .int 0]) ∧ M' dk = some (aI cI 16 (fun _ => 0)) ∧ M' cb = some (aI cI (rm + 1) (fun _ => 0)) ∧ M' cv = some (aI cI (rm + 1) (fun _ => 0)) ∧ (∀ b e, b ≠ st → M b = some e → M' b = some e)) := by
  refine ct_of "BlockTargetSession$Store" rfl (by decide) (Nat.le_of_ble_eq_true rfl) ?_
  intro Z hl hD hnm hQ C
  subst hl
  subst hD
  show V cls 2 (rmOf 1 24 3 30) Z 0 [(0, .ref st), (1, .int (nI rm))] [] M 0 0
  refine v_aload_n C (i := 0) d_St_init_0 rfl rfl ?_
  refine v_objInit C w_79 w_15 w_16 (Nat.le_of_ble_eq_true rfl) (Nat.le_of_ble_eq_true rfl) d_St_init_1 ?_
  refine v_aload_n C (i := 0) d_St_init_4 rfl rfl ?_
  refine v_bipush C (v := 16) d_St_init_5 (by decide) ?_
  refine v_newa C w_98 0 rfl (N := 16) (by decide) (by decide) (by omega) (by decide) (by decide) d_St_init_7 (fun q_7 hq_7 oq_7 => ?_)
  refine V.eqst (st' := [.ref q_7, .ref st]) rfl (V.cs (k' := 1) (n' := 16) rfl rfl ?_)
  have lstq_7 : st < q_7 := oq_7 _ _ h1
  have fq_7 : ∀ b e, b ≠ st → M b = some e → b < q_7 := fun b e hb he => oq_7 _ _ ((fun b e _ he => he) b e hb he)
  have kst : (mset M q_7 (aI cI 16 (fun _ => 0))) st = some (ob 3 [.int 0, .null, .null, .null, .int 0]) := (mset_ne (fr_ne hq_7 h1)).trans h1
  have kq_7 : (mset M q_7 (aI cI 16 (fun _ => 0))) q_7 = some (aI cI 16 (fun _ => 0)) := mset_self _ _ _
  have kf : ∀ b e, b ≠ st → M b = some e → (mset M q_7 (aI cI 16 (fun _ => 0))) b = some e := fun b e hb he => by rw [mset_ne (fr_ne hq_7 ((fun b e _ he => he) b e hb he))]; exact (fun b e _ he => he) b e hb he
  revert kst kq_7 kf
  generalize mset M q_7 (aI cI 16 (fun _ => 0)) = M1
  intro kst kq_7 kf
  refine v_putF C in_St t_St to_St nm_St kst cl_St 1 (by decide) (fs' := [.int 0, .ref q_7, .null, .null, .int 0]) w_81 rfl rfl hnm rfl rfl rfl (Nat.le_of_ble_eq_true rfl) rfl d_St_init_9 ?_
  have kq_7 : (mset M1 st (ob 3 [.int 0, .ref q_7, .null, .null, .int 0])) q_7 = some (aI cI 16 (fun _ => 0)) := (mset_ne (mne kq_7 kst rfl)).trans kq_7
  have kst : (mset M1 st (ob 3 [.int 0, .ref q_7, .null, .null, .int 0])) st = some (ob 3 [.int 0, .ref q_7, .null, .null, .int 0]) := mset_self _ _ _
  have kf : ∀ b e, b ≠ st → M b = some e → (mset M1 st (ob 3 [.int 0, .ref q_7, .null, .null, .int 0])) b = some e := fun b e hb he => by rw [mset_ne hb]; exact kf b e hb he
  revert kq_7 kst kf
  generalize mset M1 st (ob 3 [.int 0, .ref q_7, .null, .null, .int 0]) = M1
  intro kq_7 kst kf
  refine v_aload_n C (i := 0) d_St_init_12 rfl rfl ?_
  refine v_iconst C (v := 0) d_St_init_13 (by decide) ?_
  refine v_put C in_St t_St to_St nm_St kst cl_St 4 (by decide) (fs' := [.int 0, .ref q_7, .null, .null, .int 0]) w_85 rfl rfl rfl rfl (Nat.le_of_ble_eq_true rfl) rfl d_St_init_14 ?_
  have kq_7 : (mset M1 st (ob 3 [.int 0, .ref q_7, .null, .null, .int 0])) q_7 = some (aI cI 16 (fun _ => 0)) := (mset_ne (mne kq_7 kst rfl)).trans kq_7
  have kst : (mset M1 st (ob 3 [.int 0, .ref q_7, .null, .null, .int 0])) st = some (ob 3 [.int 0, .ref q_7, .null, .null, .int 0]) := mset_self _ _ _
  have kf : ∀ b e, b ≠ st → M b = some e → (mset M1 st (ob 3 [.int 0, .ref q_7, .null, .null, .int 0])) b = some e := fun b e hb he => by rw [mset_ne hb]; exact kf b e hb he
  revert kq_7 kst kf
  generalize mset M1 st (ob 3 [.int 0, .ref q_7, .null, .null, .int 0]) = M1
  intro kq_7 kst kf
  refine v_aload_n C (i := 0) d_St_init_17 rfl rfl ?_
  refine v_iload_n C (i := 1) d_St_init_18 rfl rfl ?_
  refine v_putF C in_St t_St to_St nm_St kst cl_St 0 (by decide) (fs' := [.int (nI rm), .ref q_7, .null, .null, .int 0]) w_80 rfl rfl hnm rfl rfl rfl (Nat.le_of_ble_eq_true rfl) rfl d_St_init_19 ?_
  have kq_7 : (mset M1 st (ob 3 [.int (nI rm), .ref q_7, .null, .null, .int 0])) q_7 = some (aI cI 16 (fun _ => 0)) := (mset_ne (mne kq_7 kst rfl)).trans kq_7
  have kst : (mset M1 st (ob 3 [.int (nI rm), .ref q_7, .null, .null, .int 0])) st = some (ob 3 [.int (nI rm), .ref q_7, .null, .null, .int 0]) := mset_self _ _ _
  have kf : ∀ b e, b ≠ st → M b = some e → (mset M1 st (ob 3 [.int (nI rm), .ref q_7, .null, .null, .int 0])) b = some e := fun b e hb he => by rw [mset_ne hb]; exact kf b e hb he
  revert kq_7 kst kf
  generalize mset M1 st (ob 3 [.int (nI rm), .ref q_7, .null, .null, .int 0]) = M1
  intro kq_7 kst kf
  refine v_aload_n C (i := 0) d_St_init_22 rfl rfl ?_
  refine v_iload_n C (i := 1) d_St_init_23 rfl rfl ?_
  refine v_iconst C (v := 1) d_St_init_24 (by decide) ?_
  refine v_iadd C d_St_init_25 ?_
  refine V.eqst (st' := [.int (nI (rm + 1)), .ref st]) (by rw [nI_1]) ?_
  refine v_newa C w_98 0 rfl (N := rm + 1) (nI_pos (by omega)) (pk_cl (rm + 1)) (by omega) (by decide) (by show 16 + (rm + 1) ≤ 30; omega) d_St_init_26 (fun q_26 hq_26 oq_26 => ?_)
  refine V.eqst (st' := [.ref q_26, .ref st]) rfl (V.cs (k' := 2) (n' := 16 + (rm + 1)) rfl rfl ?_)
  have lstq_26 : st < q_26 := oq_26 _ _ kst
  have lq_7q_26 : q_7 < q_26 := oq_26 _ _ kq_7
  have fq_26 : ∀ b e, b ≠ st → M b = some e → b < q_26 := fun b e hb he => oq_26 _ _ (kf b e hb he)
  have kst : (mset M1 q_26 (aI cI (rm + 1) (fun _ => 0))) st = some (ob 3 [.int (nI rm), .ref q_7, .null, .null, .int 0]) := (mset_ne (fr_ne hq_26 kst)).trans kst
  have kq_7 : (mset M1 q_26 (aI cI (rm + 1) (fun _ => 0))) q_7 = some (aI cI 16 (fun _ => 0)) := (mset_ne (fr_ne hq_26 kq_7)).trans kq_7
  have kq_26 : (mset M1 q_26 (aI cI (rm + 1) (fun _ => 0))) q_26 = some (aI cI (rm + 1) (fun _ => 0)) := mset_self _ _ _
  have kf : ∀ b e, b ≠ st → M b = some e → (mset M1 q_26 (aI cI (rm + 1) (fun _ => 0))) b = some e := fun b e hb he => by rw [mset_ne (fr_ne hq_26 (kf b e hb he))]; exact kf b e hb he
  revert kst kq_7 kq_26 kf
  generalize mset M1 q_26 (aI cI (rm + 1) (fun _ => 0)) = M1
  intro kst kq_7 kq_26 kf
  refine v_putF C in_St t_St to_St nm_St kst cl_St 2 (by decide) (fs' := [.int (nI rm), .ref q_7, .ref q_26, .null, .int 0]) w_83 rfl rfl hnm rfl rfl rfl (Nat.le_of_ble_eq_true rfl) rfl d_St_init_28 ?_
  have kq_7 : (mset M1 st (ob 3 [.int (nI rm), .ref q_7, .ref q_26, .null, .int 0])) q_7 = some (aI cI 16 (fun _ => 0)) := (mset_ne (mne kq_7 kst rfl)).trans kq_7
  have kq_26 : (mset M1 st (ob 3 [.int (nI rm), .ref q_7, .ref q_26, .null, .int 0])) q_26 = some (aI cI (rm + 1) (fun _ => 0)) := (mset_ne (mne kq_26 kst rfl)).trans kq_26
  have kst : (mset M1 st (ob 3 [.int (nI rm), .ref q_7, .ref q_26, .null, .int 0])) st = some (ob 3 [.int (nI rm), .ref q_7, .ref q_26, .null, .int 0]) := mset_self _ _ _
  have kf : ∀ b e, b ≠ st → M b = some e → (mset M1 st (ob 3 [.int (nI rm), .ref q_7, .ref q_26, .null, .int 0])) b = some e := fun b e hb he => by rw [mset_ne hb]; exact kf b e hb he
  revert kq_7 kq_26 kst kf
  generalize mset M1 st (ob 3 [.int (nI rm), .ref q_7, .ref q_26, .null, .int 0]) = M1
  intro kq_7 kq_26 kst kf
  refine v_aload_n C (i := 0) d_St_init_31 rfl rfl ?_
  refine v_iload_n C (i := 1) d_St_init_32 rfl rfl ?_
  refine v_iconst C (v := 1) d_St_init_33 (by decide) ?_
  refine v_iadd C d_St_init_34 ?_
  refine V.eqst (st' := [.int (nI (rm + 1)), .ref st]) (by rw [nI_1]) ?_
  refine v_newa C w_98 0 rfl (N := rm + 1) (nI_pos (by omega)) (pk_cl (rm + 1)) (by omega) (by decide) (by show 16 + (rm + 1) + (rm + 1) ≤ 30; omega) d_St_init_35 (fun q_35 hq_35 oq_35 => ?_)
  refine V.eqst (st' := [.ref q_35, .ref st]) rfl (V.cs (k' := 3) (n' := 16 + (rm + 1) + (rm + 1)) rfl rfl ?_)
  have lstq_35 : st < q_35 := oq_35 _ _ kst
  have lq_7q_35 : q_7 < q_35 := oq_35 _ _ kq_7
  have lq_26q_35 : q_26 < q_35 := oq_35 _ _ kq_26
  have fq_35 : ∀ b e, b ≠ st → M b = some e → b < q_35 := fun b e hb he => oq_35 _ _ (kf b e hb he)
  have kst : (mset M1 q_35 (aI cI (rm + 1) (fun _ => 0))) st = some (ob 3 [.int (nI rm), .ref q_7, .ref q_26, .null, .int 0]) := (mset_ne (fr_ne hq_35 kst)).trans kst
  have kq_7 : (mset M1 q_35 (aI cI (rm + 1) (fun _ => 0))) q_7 = some (aI cI 16 (fun _ => 0)) := (mset_ne (fr_ne hq_35 kq_7)).trans kq_7
  have kq_26 : (mset M1 q_35 (aI cI (rm + 1) (fun _ => 0))) q_26 = some (aI cI (rm + 1) (fun _ => 0)) := (mset_ne (fr_ne hq_35 kq_26)).trans kq_26
  have kq_35 : (mset M1 q_35 (aI cI (rm + 1) (fun _ => 0))) q_35 = some (aI cI (rm + 1) (fun _ => 0)) := mset_self _ _ _
  have kf : ∀ b e, b ≠ st → M b = some e → (mset M1 q_35 (aI cI (rm + 1) (fun _ => 0))) b = some e := fun b e hb he => by rw [mset_ne (fr_ne hq_35 (kf b e hb he))]; exact kf b e hb he
  revert kst kq_7 kq_26 kq_35 kf
  generalize mset M1 q_35 (aI cI (rm + 1) (fun _ => 0)) = M1
  intro kst kq_7 kq_26 kq_35 kf
  refine v_putF C in_St t_St to_St nm_St kst cl_St 3 (by decide) (fs' := [.int (nI rm), .ref q_7, .ref q_26, .ref q_35, .int 0]) w_84 rfl rfl hnm rfl rfl rfl (Nat.le_of_ble_eq_true rfl) rfl d_St_init_37 ?_
  have kq_7 : (mset M1 st (ob 3 [.int (nI rm), .ref q_7, .ref q_26, .ref q_35, .int 0])) q_7 = some (aI cI 16 (fun _ => 0)) := (mset_ne (mne kq_7 kst rfl)).trans kq_7
  have kq_26 : (mset M1 st (ob 3 [.int (nI rm), .ref q_7, .ref q_26, .ref q_35, .int 0])) q_26 = some (aI cI (rm + 1) (fun _ => 0)) := (mset_ne (mne kq_26 kst rfl)).trans kq_26
  have kq_35 : (mset M1 st (ob 3 [.int (nI rm), .ref q_7, .ref q_26, .ref q_35, .int 0])) q_35 = some (aI cI (rm + 1) (fun _ => 0)) := (mset_ne (mne kq_35 kst rfl)).trans kq_35
  have kst : (mset M1 st (ob 3 [.int (nI rm), .ref q_7, .ref q_26, .ref q_35, .int 0])) st = some (ob 3 [.int (nI rm), .ref q_7, .ref q_26, .ref q_35, .int 0]) := mset_self _ _ _
  have kf : ∀ b e, b ≠ st → M b = some e → (mset M1 st (ob 3 [.int (nI rm), .ref q_7, .ref q_26, .ref q_35, .int 0])) b = some e := fun b e hb he => by rw [mset_ne hb]; exact kf b e hb he
  revert kq_7 kq_26 kq_35 kst kf
  generalize mset M1 st (ob 3 [.int (nI rm), .ref q_7, .ref q_26, .ref q_35, .int 0]) = M1
  intro kq_7 kq_26 kq_35 kst kf
  exact v_vret hQ C rfl d_St_init_40 (by omega) (by omega) ⟨rfl, q_7, q_26, q_35, fq_7, lstq_7, lq_7q_26, lq_26q_35, kst, kq_7, kq_26, kq_35, kf⟩
end
section
abbrev adL (o rq l1 s1 l2 s2 s dk cb cv : Nat) (a b : Nat → Nat) : List Nat := [o, rq, l1, s1, a 0, a 1, a 2, a 3, l2, s2, b 0, b 1, b 2, b 3, b 4, b 5, b 6, b 7, b 8, b 9, b 10, b 11, b 12, b 13, b 14, b 15, s, dk, cb, cv]
abbrev brL : List Nat := [0, 26, 27, 28, 29, 1, 2, 3, 8, 9, 4, 5, 6, 7, 10, 11, 12, 13, 14, 15, 16, 17, 18, 19, 20, 21, 22, 23, 24, 25]
def adF (L : List Nat) : Nat → Nat := fun t => L.getD (brL.getD t 0) 0
theorem mono_step {g : Nat → Nat} {n : Nat} (h : ∀ k, k < n → g k < g (k + 1)) : ∀ i j, i < j → j ≤ n → g i < g j := by
  intro i j hij hj
  induction j with
  | zero => omega
  | succ j ih =>
    by_cases c : i = j
    · subst c; exact h i (by omega)
    · exact Nat.lt_trans (ih (by omega) (by omega)) (h j (by omega))
theorem brL_inj : ∀ t, t < 30 → ∀ t', t' < 30 → brL.getD t 0 = brL.getD t' 0 → t = t' := by decide +kernel
theorem brL_lt : ∀ t, t < 30 → brL.getD t 0 < 30 := by decide +kernel
set_option maxRecDepth 100000 in
theorem adF_inj {o rq l1 s1 l2 s2 s dk cb cv : Nat} {a b : Nat → Nat} (c1 : o < rq) (c2 : rq < l1) (c3 : l1 < s1) (c4 : ∀ j, j < 4 → s1 < a j) (c5 : ∀ j j', j < j' → j' < 4 → a j < a j') (c6 : ∀ j, j < 4 → a j < l2) (c7 : l2 < s2) (c8 : ∀ j, j < 16 → s2 < b j) (c9 : ∀ j j', j < j' → j' < 16 → b j < b j') (c10 : ∀ j, j < 16 → b j < s) (c11 : s < dk) (c12 : dk < cb) (c13 : cb < cv) : ∀ t t', t < 30 → t' < 30 → adF (adL o rq l1 s1 l2 s2 s dk cb cv a b) t = adF (adL o rq l1 s1 l2 s2 s dk cb cv a b) t' → t = t' := by
  have st : ∀ k, k < 29 → (adL o rq l1 s1 l2 s2 s dk cb cv a b).getD k 0 < (adL o rq l1 s1 l2 s2 s dk cb cv a b).getD (k + 1) 0 := by
    intro k hk
    rcases (show k = 0 ∨ k = 1 ∨ k = 2 ∨ k = 3 ∨ k = 4 ∨ k = 5 ∨ k = 6 ∨ k = 7 ∨ k = 8 ∨ k = 9 ∨ k = 10 ∨ k = 11 ∨ k = 12 ∨ k = 13 ∨ k = 14 ∨ k = 15 ∨ k = 16 ∨ k = 17 ∨ k = 18 ∨ k = 19 ∨ k = 20 ∨ k = 21 ∨ k = 22 ∨ k = 23 ∨ k = 24 ∨ k = 25 ∨ k = 26 ∨ k = 27 ∨ k = 28 by omega) with rfl | rfl | rfl | rfl | rfl | rfl | rfl | rfl | rfl | rfl | rfl | rfl | rfl | rfl | rfl | rfl | rfl | rfl | rfl | rfl | rfl | rfl | rfl | rfl | rfl | rfl | rfl | rfl | rfl
    · exact c1
    · exact c2
    · exact c3
    · exact c4 0 (by decide)
    · exact c5 0 1 (by decide) (by decide)
    · exact c5 1 2 (by decide) (by decide)
    · exact c5 2 3 (by decide) (by decide)
    · exact c6 3 (by decide)
    · exact c7
    · exact c8 0 (by decide)
    · exact c9 0 1 (by decide) (by decide)
    · exact c9 1 2 (by decide) (by decide)
    · exact c9 2 3 (by decide) (by decide)
    · exact c9 3 4 (by decide) (by decide)
    · exact c9 4 5 (by decide) (by decide)
    · exact c9 5 6 (by decide) (by decide)
    · exact c9 6 7 (by decide) (by decide)
    · exact c9 7 8 (by decide) (by decide)
    · exact c9 8 9 (by decide) (by decide)
    · exact c9 9 10 (by decide) (by decide)
    · exact c9 10 11 (by decide) (by decide)
    · exact c9 11 12 (by decide) (by decide)
    · exact c9 12 13 (by decide) (by decide)
    · exact c9 13 14 (by decide) (by decide)
    · exact c9 14 15 (by decide) (by decide)
    · exact c10 15 (by decide)
    · exact c11
    · exact c12
    · exact c13
  have mo := mono_step (g := fun k => (adL o rq l1 s1 l2 s2 s dk cb cv a b).getD k 0) st
  intro t t' ht ht' e
  refine brL_inj t ht t' ht' ?_
  have b1 := brL_lt t ht
  have b2 := brL_lt t' ht'
  rcases Nat.lt_trichotomy (brL.getD t 0) (brL.getD t' 0) with z | z | z
  · exact absurd e (Nat.ne_of_lt (mo _ _ z (by omega)))
  · exact z
  · exact absurd e.symm (Nat.ne_of_lt (mo _ _ z (by omega)))
def G10 (w : Int32) (rm : Nat) : G1 := (va_up (fun _ => 0) 4 rm, va_up (fun _ => 0) 0 w, fun _ _ => 0, fun _ _ => 0)
set_option maxRecDepth 100000 in
theorem R1.start {cI cR cM : ClassId} {M : Mem} {o rq l1 s1 l2 s2 s dk cb cv : Nat} {a b : Nat → Nat} (w : Int32) (rm : Nat) (c1 : o < rq) (c2 : rq < l1) (c3 : l1 < s1) (c4 : ∀ j, j < 4 → s1 < a j) (c5 : ∀ j j', j < j' → j' < 4 → a j < a j') (c6 : ∀ j, j < 4 → a j < l2) (c7 : l2 < s2) (c8 : ∀ j, j < 16 → s2 < b j) (c9 : ∀ j j', j < j' → j' < 16 → b j < b j') (c10 : ∀ j, j < 16 → b j < s) (c11 : s < dk) (c12 : dk < cb) (c13 : cb < cv)
    (k0 : M o = some (ob 4 [.int w, .ref s, .ref rq, .int 0, .ref l1, .ref l2, .int 0, .int 0, .int 0, .int 0, .int 0])) (k1 : M s = some (ob 3 [.int (nI rm), .ref dk, .ref cb, .ref cv, .int 0])) (k2 : M dk = some (aI cI 16 (fun _ => 0))) (k3 : M cb = some (aI cI (rm + 1) (fun _ => 0))) (k4 : M cv = some (aI cI (rm + 1) (fun _ => 0))) (k5 : M rq = some (aQ cR 120 (fun _ => none)))
    (k6 : M l1 = some (ob 0 [.ref s1, .int 0])) (k7 : M s1 = some (aQ cM 4 (fun j => if j < 4 then some (a j) else none))) (k8 : M l2 = some (ob 0 [.ref s2, .int 0])) (k9 : M s2 = some (aQ cM 16 (fun j => if j < 16 then some (b j) else none))) (k10 : ∀ j, j < 4 → M (a j) = some (ob 1 [.int 0, .int 0, .int 0, .int 0, .int 0, .int 0])) (k11 : ∀ j, j < 16 → M (b j) = some (ob 1 [.int 0, .int 0, .int 0, .int 0, .int 0, .int 0])) :
    ∃ ad : Nat → Nat, ad 0 = o ∧ R1 cI cR cM M ad (G10 w rm) := by
  have ea : ∀ j, j < 4 → adF (adL o rq l1 s1 l2 s2 s dk cb cv a b) (10 + j) = a j := by
    intro j hj
    rcases (show j = 0 ∨ j = 1 ∨ j = 2 ∨ j = 3 by omega) with rfl | rfl | rfl | rfl <;> rfl
  have eb : ∀ j, j < 16 → adF (adL o rq l1 s1 l2 s2 s dk cb cv a b) (14 + j) = b j := by
    intro j hj
    rcases (show j = 0 ∨ j = 1 ∨ j = 2 ∨ j = 3 ∨ j = 4 ∨ j = 5 ∨ j = 6 ∨ j = 7 ∨ j = 8 ∨ j = 9 ∨ j = 10 ∨ j = 11 ∨ j = 12 ∨ j = 13 ∨ j = 14 ∨ j = 15 by omega) with rfl | rfl | rfl | rfl | rfl | rfl | rfl | rfl | rfl | rfl | rfl | rfl | rfl | rfl | rfl | rfl <;> rfl
  refine ⟨adF (adL o rq l1 s1 l2 s2 s dk cb cv a b), rfl, ?_, ?_, k1, k2, k3, k4, ?_, ?_, ?_, ?_, ?_, ?_⟩
  · exact adF_inj c1 c2 c3 c4 c5 c6 c7 c8 c9 c10 c11 c12 c13
  · exact k0
  · refine k5.trans ?_
    congr 2
  · intro x hx
    rcases (show x = 0 ∨ x = 1 by omega) with rfl | rfl
    · exact k6
    · exact k8
  · intro x hx
    rcases (show x = 0 ∨ x = 1 by omega) with rfl | rfl
    · refine k7.trans ?_
      congr 2
      congr 6
      funext j
      by_cases c : j < 4
      · rw [if_pos c]
        exact (congrArg some (ea j c)).symm.trans (if_pos (show j < cap 0 from c)).symm
      · rw [if_neg c]
        exact (if_neg (show ¬ j < cap 0 from c)).symm
    · refine k9.trans ?_
      congr 2
      congr 6
      funext j
      by_cases c : j < 16
      · rw [if_pos c]
        exact (congrArg some (eb j c)).symm.trans (if_pos (show j < cap 1 from c)).symm
      · rw [if_neg c]
        exact (if_neg (show ¬ j < cap 1 from c)).symm
  · intro x j hx hj
    rcases (show x = 0 ∨ x = 1 by omega) with rfl | rfl
    · show M (adF _ (10 + j)) = _
      rw [ea j hj]
      exact k10 j hj
    · show M (adF _ (14 + j)) = _
      rw [eb j hj]
      exact k11 j hj
  · intro i hi
    exact absurd hi (Nat.not_lt_zero i)
  · intro i hi
    exact absurd hi (Nat.not_lt_zero i)
theorem clamp_rm (y : Int32) : ∃ rm : Nat, 1 ≤ rm ∧ rm ≤ 6 ∧ clampI y 1 6 = nI rm := by
  unfold clampI
  by_cases h : y < 6
  · rw [if_pos h]
    by_cases h2 : 1 < y
    · rw [if_pos h2]
      rcases pk_ix y (n := 7) (by decide) with z | z | ⟨j, hj, e⟩
      · exact absurd (ts_neg z) (by have := Int32.lt_iff_toInt_lt.mp h2; have e1 : (1 : Int32).toInt = 1 := rfl; omega)
      · exact absurd (ts_big (n := 6) z (by decide)) (by have := Int32.lt_iff_toInt_lt.mp h; have e1 : (6 : Int32).toInt = 6 := rfl; omega)
      · refine ⟨j, ?_, by omega, e⟩
        subst e
        have := Int32.lt_iff_toInt_lt.mp h2
        rw [nI_toInt (by omega)] at this
        have e1 : (1 : Int32).toInt = 1 := rfl
        omega
    · rw [if_neg h2]
      exact ⟨1, by omega, by omega, rfl⟩
  · rw [if_neg h, if_pos (by decide)]
    exact ⟨6, by omega, by omega, rfl⟩
set_option maxHeartbeats 4000000 in
set_option maxRecDepth 100000 in
theorem ct_Bs_init {D : va_G} {l : Launch} {cI cZ cR cM : ClassId} {M : Mem} {o : Nat} (x y : Int32) (ko : M o = some (ob 4 [.int 0, .null, .null, .int 0, .null, .null, .int 0, .int 0, .int 0, .int 0, .int 0])) : Ct TT D cls (tyL cI cZ cR cM) l y_Bs_init b_Bs_init 3 none 3 66 29 299 [.ref o, .int x, .int y] M (fun rv M' => rv = none ∧ ∃ (ad : Nat → Nat) (rm : Nat), 1 ≤ rm ∧ rm ≤ 6 ∧ clampI y 1 6 = nI rm ∧ ad 0 = o ∧ R1 cI cR cM M' ad (G10 (clampI x 1 4) rm).bg) := by
  refine ct_of "BlockTargetSession" rfl (by decide) (Nat.le_of_ble_eq_true rfl) ?_
  intro Z hl hD hnm hQ C
  subst hl
  subst hD
  show V cls 3 (rmOf 3 66 29 299) Z 0 [(0, .ref o), (1, .int x), (2, .int y)] [] M 0 0
  refine v_aload_n C (i := 0) d_Bs_init_0 rfl rfl ?_
  refine v_objInit C w_14 w_15 w_16 (Nat.le_of_ble_eq_true rfl) (Nat.le_of_ble_eq_true rfl) d_Bs_init_1 ?_
  refine v_aload_n C (i := 0) d_Bs_init_4 rfl rfl ?_
  refine v_bipush C (v := 120) d_Bs_init_5 (by decide) ?_
  refine v_newq C w_17 w_18 2 rfl (N := 120) (by decide) (by decide) (by omega) (by decide) (by decide) d_Bs_init_7 (fun q_7 hq_7 oq_7 => ?_)
  refine V.eqst (st' := [.ref q_7, .ref o]) rfl (V.cs (k' := 1) (n' := 120) rfl rfl ?_)
  have loq_7 : o < q_7 := oq_7 _ _ ko
  have loq_7 : o < q_7 := oq_7 _ _ ko
  have ko : (mset M q_7 (aQ cR 120 (fun _ => none))) o = some (ob 4 [.int 0, .null, .null, .int 0, .null, .null, .int 0, .int 0, .int 0, .int 0, .int 0]) := (mset_ne (fr_ne hq_7 ko)).trans ko
  have kq_7 : (mset M q_7 (aQ cR 120 (fun _ => none))) q_7 = some (aQ cR 120 (fun _ => none)) := mset_self _ _ _
  revert ko kq_7
  generalize mset M q_7 (aQ cR 120 (fun _ => none)) = M1
  intro ko kq_7
  refine v_putF C in_Bs t_Bs to_Bs nm_Bs ko cl_Bs 2 (by decide) (fs' := [.int 0, .null, .ref q_7, .int 0, .null, .null, .int 0, .int 0, .int 0, .int 0, .int 0]) w_105 rfl rfl hnm rfl rfl rfl (Nat.le_of_ble_eq_true rfl) rfl d_Bs_init_10 ?_
  have kq_7 : (mset M1 o (ob 4 [.int 0, .null, .ref q_7, .int 0, .null, .null, .int 0, .int 0, .int 0, .int 0, .int 0])) q_7 = some (aQ cR 120 (fun _ => none)) := (mset_ne (Nat.ne_of_gt (loq_7))).trans kq_7
  have ko : (mset M1 o (ob 4 [.int 0, .null, .ref q_7, .int 0, .null, .null, .int 0, .int 0, .int 0, .int 0, .int 0])) o = some (ob 4 [.int 0, .null, .ref q_7, .int 0, .null, .null, .int 0, .int 0, .int 0, .int 0, .int 0]) := mset_self _ _ _
  revert kq_7 ko
  generalize mset M1 o (ob 4 [.int 0, .null, .ref q_7, .int 0, .null, .null, .int 0, .int 0, .int 0, .int 0, .int 0]) = M1
  intro kq_7 ko
  refine v_aload_n C (i := 0) d_Bs_init_13 rfl rfl ?_
  refine v_iconst C (v := 0) d_Bs_init_14 (by decide) ?_
  refine v_put C in_Bs t_Bs to_Bs nm_Bs ko cl_Bs 3 (by decide) (fs' := [.int 0, .null, .ref q_7, .int 0, .null, .null, .int 0, .int 0, .int 0, .int 0, .int 0]) w_106 rfl rfl rfl rfl (Nat.le_of_ble_eq_true rfl) rfl d_Bs_init_15 ?_
  have kq_7 : (mset M1 o (ob 4 [.int 0, .null, .ref q_7, .int 0, .null, .null, .int 0, .int 0, .int 0, .int 0, .int 0])) q_7 = some (aQ cR 120 (fun _ => none)) := (mset_ne (Nat.ne_of_gt (loq_7))).trans kq_7
  have ko : (mset M1 o (ob 4 [.int 0, .null, .ref q_7, .int 0, .null, .null, .int 0, .int 0, .int 0, .int 0, .int 0])) o = some (ob 4 [.int 0, .null, .ref q_7, .int 0, .null, .null, .int 0, .int 0, .int 0, .int 0, .int 0]) := mset_self _ _ _
  revert kq_7 ko
  generalize mset M1 o (ob 4 [.int 0, .null, .ref q_7, .int 0, .null, .null, .int 0, .int 0, .int 0, .int 0, .int 0]) = M1
  intro kq_7 ko
  refine v_aload_n C (i := 0) d_Bs_init_18 rfl rfl ?_
  refine v_new C (fs := [.null, .int 0]) in_Ln t_Ln to_Ln w_19 w_20 w_2 cl_Ln (fun j hj => by rcases (show j = 0 ∨ j = 1 by omega) with rfl | rfl <;> rfl) (by decide) (by decide) d_Bs_init_19 (fun q_19 hq_19 oq_19 => ?_)
  refine V.eqst (st' := [.ref q_19, .ref o]) rfl (V.cs (k' := 2) (n' := 122) rfl rfl ?_)
  have loq_19 : o < q_19 := oq_19 _ _ ko
  have lq_7q_19 : q_7 < q_19 := oq_19 _ _ kq_7
  have loq_19 : o < q_19 := oq_19 _ _ ko
  have ko : (mset M1 q_19 (ob 0 [.null, .int 0])) o = some (ob 4 [.int 0, .null, .ref q_7, .int 0, .null, .null, .int 0, .int 0, .int 0, .int 0, .int 0]) := (mset_ne (fr_ne hq_19 ko)).trans ko
  have kq_7 : (mset M1 q_19 (ob 0 [.null, .int 0])) q_7 = some (aQ cR 120 (fun _ => none)) := (mset_ne (fr_ne hq_19 kq_7)).trans kq_7
  have kq_19 : (mset M1 q_19 (ob 0 [.null, .int 0])) q_19 = some (ob 0 [.null, .int 0]) := mset_self _ _ _
  revert ko kq_7 kq_19
  generalize mset M1 q_19 (ob 0 [.null, .int 0]) = M1
  intro ko kq_7 kq_19
  refine v_dup C d_Bs_init_22 rfl ?_
  refine v_iconst C (v := 4) d_Bs_init_23 (by decide) ?_
  refine v_callI C (As := [.int 4]) (rest := [.ref q_19, .ref o]) rfl w_22 (ct_Ln_init 4 (by decide) kq_19) (Nat.le_of_ble_eq_true rfl) (Nat.le_of_ble_eq_true rfl) w_23 w_2 hy_Ln_init w_21 rfl (Nat.le_of_ble_eq_true rfl) ⟨by decide, by decide⟩ d_Bs_init_24 (fun rv M hp => ?_)
  obtain ⟨rfl, s1, a1, p1, lsla1, lma1, p2, p3, p4, p5⟩ := hp
  have los1 : o < s1 := p1 _ _ ko
  have lq_7s1 : q_7 < s1 := p1 _ _ kq_7
  have lq_19s1 : q_19 < s1 := p1 _ _ kq_19
  have los1 : o < s1 := p1 _ _ ko
  have loa1 : ∀ j, j < 4 → o < a1 j := fun j hj => Nat.lt_trans los1 (lsla1 j hj)
  have ko := p5 _ _ (Nat.ne_of_lt loq_19) ko
  have kq_7 := p5 _ _ (Nat.ne_of_lt lq_7q_19) kq_7
  have kq_19 := p2
  have ks1 := p3
  have ka1 := p4
  refine V.eqst (st' := [.ref q_19, .ref o]) rfl (V.cs (k' := 7) (n' := 150) rfl rfl ?_)
  refine v_putF C in_Bs t_Bs to_Bs nm_Bs ko cl_Bs 4 (by decide) (fs' := [.int 0, .null, .ref q_7, .int 0, .ref q_19, .null, .int 0, .int 0, .int 0, .int 0, .int 0]) w_107 rfl rfl hnm rfl rfl rfl (Nat.le_of_ble_eq_true rfl) rfl d_Bs_init_27 ?_
  have kq_7 : (mset M o (ob 4 [.int 0, .null, .ref q_7, .int 0, .ref q_19, .null, .int 0, .int 0, .int 0, .int 0, .int 0])) q_7 = some (aQ cR 120 (fun _ => none)) := (mset_ne (Nat.ne_of_gt (loq_7))).trans kq_7
  have kq_19 : (mset M o (ob 4 [.int 0, .null, .ref q_7, .int 0, .ref q_19, .null, .int 0, .int 0, .int 0, .int 0, .int 0])) q_19 = some (ob 0 [.ref s1, .int 0]) := (mset_ne (Nat.ne_of_gt (loq_19))).trans kq_19
  have ks1 : (mset M o (ob 4 [.int 0, .null, .ref q_7, .int 0, .ref q_19, .null, .int 0, .int 0, .int 0, .int 0, .int 0])) s1 = some (aQ cM 4 (fun j => if j < 4 then some (a1 j) else none)) := (mset_ne (Nat.ne_of_gt (los1))).trans ks1
  have ka1 : ∀ j, j < 4 → (mset M o (ob 4 [.int 0, .null, .ref q_7, .int 0, .ref q_19, .null, .int 0, .int 0, .int 0, .int 0, .int 0])) (a1 j) = some (ob 1 [.int 0, .int 0, .int 0, .int 0, .int 0, .int 0]) := fun j hj => (mset_ne (Nat.ne_of_gt (loa1 j hj))).trans (ka1 j hj)
  have ko : (mset M o (ob 4 [.int 0, .null, .ref q_7, .int 0, .ref q_19, .null, .int 0, .int 0, .int 0, .int 0, .int 0])) o = some (ob 4 [.int 0, .null, .ref q_7, .int 0, .ref q_19, .null, .int 0, .int 0, .int 0, .int 0, .int 0]) := mset_self _ _ _
  revert kq_7 kq_19 ks1 ka1 ko
  generalize mset M o (ob 4 [.int 0, .null, .ref q_7, .int 0, .ref q_19, .null, .int 0, .int 0, .int 0, .int 0, .int 0]) = M1
  intro kq_7 kq_19 ks1 ka1 ko
  refine v_aload_n C (i := 0) d_Bs_init_30 rfl rfl ?_
  refine v_new C (fs := [.null, .int 0]) in_Ln t_Ln to_Ln w_19 w_20 w_2 cl_Ln (fun j hj => by rcases (show j = 0 ∨ j = 1 by omega) with rfl | rfl <;> rfl) (by decide) (by decide) d_Bs_init_31 (fun q_31 hq_31 oq_31 => ?_)
  refine V.eqst (st' := [.ref q_31, .ref o]) rfl (V.cs (k' := 8) (n' := 152) rfl rfl ?_)
  have loq_31 : o < q_31 := oq_31 _ _ ko
  have lq_7q_31 : q_7 < q_31 := oq_31 _ _ kq_7
  have lq_19q_31 : q_19 < q_31 := oq_31 _ _ kq_19
  have ls1q_31 : s1 < q_31 := oq_31 _ _ ks1
  have la1q_31 : ∀ j, j < 4 → a1 j < q_31 := fun j hj => oq_31 _ _ (ka1 j hj)
  have loq_31 : o < q_31 := oq_31 _ _ ko
  have ko : (mset M1 q_31 (ob 0 [.null, .int 0])) o = some (ob 4 [.int 0, .null, .ref q_7, .int 0, .ref q_19, .null, .int 0, .int 0, .int 0, .int 0, .int 0]) := (mset_ne (fr_ne hq_31 ko)).trans ko
  have kq_7 : (mset M1 q_31 (ob 0 [.null, .int 0])) q_7 = some (aQ cR 120 (fun _ => none)) := (mset_ne (fr_ne hq_31 kq_7)).trans kq_7
  have kq_19 : (mset M1 q_31 (ob 0 [.null, .int 0])) q_19 = some (ob 0 [.ref s1, .int 0]) := (mset_ne (fr_ne hq_31 kq_19)).trans kq_19
  have ks1 : (mset M1 q_31 (ob 0 [.null, .int 0])) s1 = some (aQ cM 4 (fun j => if j < 4 then some (a1 j) else none)) := (mset_ne (fr_ne hq_31 ks1)).trans ks1
  have ka1 : ∀ j, j < 4 → (mset M1 q_31 (ob 0 [.null, .int 0])) (a1 j) = some (ob 1 [.int 0, .int 0, .int 0, .int 0, .int 0, .int 0]) := fun j hj => (mset_ne (fr_ne hq_31 (ka1 j hj))).trans (ka1 j hj)
  have kq_31 : (mset M1 q_31 (ob 0 [.null, .int 0])) q_31 = some (ob 0 [.null, .int 0]) := mset_self _ _ _
  revert ko kq_7 kq_19 ks1 ka1 kq_31
  generalize mset M1 q_31 (ob 0 [.null, .int 0]) = M1
  intro ko kq_7 kq_19 ks1 ka1 kq_31
  refine v_dup C d_Bs_init_34 rfl ?_
  refine v_bipush C (v := 16) d_Bs_init_35 (by decide) ?_
  refine v_callI C (As := [.int 16]) (rest := [.ref q_31, .ref o]) rfl w_22 (ct_Ln_init 16 (by decide) kq_31) (Nat.le_of_ble_eq_true rfl) (Nat.le_of_ble_eq_true rfl) w_23 w_2 hy_Ln_init w_21 rfl (Nat.le_of_ble_eq_true rfl) ⟨by decide, by decide⟩ d_Bs_init_37 (fun rv M hp => ?_)
  obtain ⟨rfl, s2, a2, p1, lsla2, lma2, p2, p3, p4, p5⟩ := hp
  have los2 : o < s2 := p1 _ _ ko
  have lq_7s2 : q_7 < s2 := p1 _ _ kq_7
  have lq_19s2 : q_19 < s2 := p1 _ _ kq_19
  have ls1s2 : s1 < s2 := p1 _ _ ks1
  have lq_31s2 : q_31 < s2 := p1 _ _ kq_31
  have la1s2 : ∀ j, j < 4 → a1 j < s2 := fun j hj => p1 _ _ (ka1 j hj)
  have los2 : o < s2 := p1 _ _ ko
  have loa2 : ∀ j, j < 16 → o < a2 j := fun j hj => Nat.lt_trans los2 (lsla2 j hj)
  have ko := p5 _ _ (Nat.ne_of_lt loq_31) ko
  have kq_7 := p5 _ _ (Nat.ne_of_lt lq_7q_31) kq_7
  have kq_19 := p5 _ _ (Nat.ne_of_lt lq_19q_31) kq_19
  have ks1 := p5 _ _ (Nat.ne_of_lt ls1q_31) ks1
  have ka1 := fun j (hj : j < 4) => p5 _ _ (Nat.ne_of_lt (la1q_31 j hj)) (ka1 j hj)
  have kq_31 := p2
  have ks2 := p3
  have ka2 := p4
  refine V.eqst (st' := [.ref q_31, .ref o]) rfl (V.cs (k' := 25) (n' := 264) rfl rfl ?_)
  refine v_putF C in_Bs t_Bs to_Bs nm_Bs ko cl_Bs 5 (by decide) (fs' := [.int 0, .null, .ref q_7, .int 0, .ref q_19, .ref q_31, .int 0, .int 0, .int 0, .int 0, .int 0]) w_108 rfl rfl hnm rfl rfl rfl (Nat.le_of_ble_eq_true rfl) rfl d_Bs_init_40 ?_
  have kq_7 : (mset M o (ob 4 [.int 0, .null, .ref q_7, .int 0, .ref q_19, .ref q_31, .int 0, .int 0, .int 0, .int 0, .int 0])) q_7 = some (aQ cR 120 (fun _ => none)) := (mset_ne (Nat.ne_of_gt (loq_7))).trans kq_7
  have kq_19 : (mset M o (ob 4 [.int 0, .null, .ref q_7, .int 0, .ref q_19, .ref q_31, .int 0, .int 0, .int 0, .int 0, .int 0])) q_19 = some (ob 0 [.ref s1, .int 0]) := (mset_ne (Nat.ne_of_gt (loq_19))).trans kq_19
  have ks1 : (mset M o (ob 4 [.int 0, .null, .ref q_7, .int 0, .ref q_19, .ref q_31, .int 0, .int 0, .int 0, .int 0, .int 0])) s1 = some (aQ cM 4 (fun j => if j < 4 then some (a1 j) else none)) := (mset_ne (Nat.ne_of_gt (los1))).trans ks1
  have kq_31 : (mset M o (ob 4 [.int 0, .null, .ref q_7, .int 0, .ref q_19, .ref q_31, .int 0, .int 0, .int 0, .int 0, .int 0])) q_31 = some (ob 0 [.ref s2, .int 0]) := (mset_ne (Nat.ne_of_gt (loq_31))).trans kq_31
  have ks2 : (mset M o (ob 4 [.int 0, .null, .ref q_7, .int 0, .ref q_19, .ref q_31, .int 0, .int 0, .int 0, .int 0, .int 0])) s2 = some (aQ cM 16 (fun j => if j < 16 then some (a2 j) else none)) := (mset_ne (Nat.ne_of_gt (los2))).trans ks2
  have ka1 : ∀ j, j < 4 → (mset M o (ob 4 [.int 0, .null, .ref q_7, .int 0, .ref q_19, .ref q_31, .int 0, .int 0, .int 0, .int 0, .int 0])) (a1 j) = some (ob 1 [.int 0, .int 0, .int 0, .int 0, .int 0, .int 0]) := fun j hj => (mset_ne (Nat.ne_of_gt (loa1 j hj))).trans (ka1 j hj)
  have ka2 : ∀ j, j < 16 → (mset M o (ob 4 [.int 0, .null, .ref q_7, .int 0, .ref q_19, .ref q_31, .int 0, .int 0, .int 0, .int 0, .int 0])) (a2 j) = some (ob 1 [.int 0, .int 0, .int 0, .int 0, .int 0, .int 0]) := fun j hj => (mset_ne (Nat.ne_of_gt (loa2 j hj))).trans (ka2 j hj)
  have ko : (mset M o (ob 4 [.int 0, .null, .ref q_7, .int 0, .ref q_19, .ref q_31, .int 0, .int 0, .int 0, .int 0, .int 0])) o = some (ob 4 [.int 0, .null, .ref q_7, .int 0, .ref q_19, .ref q_31, .int 0, .int 0, .int 0, .int 0, .int 0]) := mset_self _ _ _
  revert kq_7 kq_19 ks1 kq_31 ks2 ka1 ka2 ko
  generalize mset M o (ob 4 [.int 0, .null, .ref q_7, .int 0, .ref q_19, .ref q_31, .int 0, .int 0, .int 0, .int 0, .int 0]) = M1
  intro kq_7 kq_19 ks1 kq_31 ks2 ka1 ka2 ko
  refine v_aload_n C (i := 0) d_Bs_init_43 rfl rfl ?_
  refine v_iconst C (v := 0) d_Bs_init_44 (by decide) ?_
  refine v_put C in_Bs t_Bs to_Bs nm_Bs ko cl_Bs 6 (by decide) (fs' := [.int 0, .null, .ref q_7, .int 0, .ref q_19, .ref q_31, .int 0, .int 0, .int 0, .int 0, .int 0]) w_109 rfl rfl rfl rfl (Nat.le_of_ble_eq_true rfl) rfl d_Bs_init_45 ?_
  have kq_7 : (mset M1 o (ob 4 [.int 0, .null, .ref q_7, .int 0, .ref q_19, .ref q_31, .int 0, .int 0, .int 0, .int 0, .int 0])) q_7 = some (aQ cR 120 (fun _ => none)) := (mset_ne (Nat.ne_of_gt (loq_7))).trans kq_7
  have kq_19 : (mset M1 o (ob 4 [.int 0, .null, .ref q_7, .int 0, .ref q_19, .ref q_31, .int 0, .int 0, .int 0, .int 0, .int 0])) q_19 = some (ob 0 [.ref s1, .int 0]) := (mset_ne (Nat.ne_of_gt (loq_19))).trans kq_19
  have ks1 : (mset M1 o (ob 4 [.int 0, .null, .ref q_7, .int 0, .ref q_19, .ref q_31, .int 0, .int 0, .int 0, .int 0, .int 0])) s1 = some (aQ cM 4 (fun j => if j < 4 then some (a1 j) else none)) := (mset_ne (Nat.ne_of_gt (los1))).trans ks1
  have kq_31 : (mset M1 o (ob 4 [.int 0, .null, .ref q_7, .int 0, .ref q_19, .ref q_31, .int 0, .int 0, .int 0, .int 0, .int 0])) q_31 = some (ob 0 [.ref s2, .int 0]) := (mset_ne (Nat.ne_of_gt (loq_31))).trans kq_31
  have ks2 : (mset M1 o (ob 4 [.int 0, .null, .ref q_7, .int 0, .ref q_19, .ref q_31, .int 0, .int 0, .int 0, .int 0, .int 0])) s2 = some (aQ cM 16 (fun j => if j < 16 then some (a2 j) else none)) := (mset_ne (Nat.ne_of_gt (los2))).trans ks2
  have ka1 : ∀ j, j < 4 → (mset M1 o (ob 4 [.int 0, .null, .ref q_7, .int 0, .ref q_19, .ref q_31, .int 0, .int 0, .int 0, .int 0, .int 0])) (a1 j) = some (ob 1 [.int 0, .int 0, .int 0, .int 0, .int 0, .int 0]) := fun j hj => (mset_ne (Nat.ne_of_gt (loa1 j hj))).trans (ka1 j hj)
  have ka2 : ∀ j, j < 16 → (mset M1 o (ob 4 [.int 0, .null, .ref q_7, .int 0, .ref q_19, .ref q_31, .int 0, .int 0, .int 0, .int 0, .int 0])) (a2 j) = some (ob 1 [.int 0, .int 0, .int 0, .int 0, .int 0, .int 0]) := fun j hj => (mset_ne (Nat.ne_of_gt (loa2 j hj))).trans (ka2 j hj)
  have ko : (mset M1 o (ob 4 [.int 0, .null, .ref q_7, .int 0, .ref q_19, .ref q_31, .int 0, .int 0, .int 0, .int 0, .int 0])) o = some (ob 4 [.int 0, .null, .ref q_7, .int 0, .ref q_19, .ref q_31, .int 0, .int 0, .int 0, .int 0, .int 0]) := mset_self _ _ _
  revert kq_7 kq_19 ks1 kq_31 ks2 ka1 ka2 ko
  generalize mset M1 o (ob 4 [.int 0, .null, .ref q_7, .int 0, .ref q_19, .ref q_31, .int 0, .int 0, .int 0, .int 0, .int 0]) = M1
  intro kq_7 kq_19 ks1 kq_31 ks2 ka1 ka2 ko
  refine v_aload_n C (i := 0) d_Bs_init_48 rfl rfl ?_
  refine v_iconst C (v := 0) d_Bs_init_49 (by decide) ?_
  refine v_put C in_Bs t_Bs to_Bs nm_Bs ko cl_Bs 7 (by decide) (fs' := [.int 0, .null, .ref q_7, .int 0, .ref q_19, .ref q_31, .int 0, .int 0, .int 0, .int 0, .int 0]) w_110 rfl rfl rfl rfl (Nat.le_of_ble_eq_true rfl) rfl d_Bs_init_50 ?_
  have kq_7 : (mset M1 o (ob 4 [.int 0, .null, .ref q_7, .int 0, .ref q_19, .ref q_31, .int 0, .int 0, .int 0, .int 0, .int 0])) q_7 = some (aQ cR 120 (fun _ => none)) := (mset_ne (Nat.ne_of_gt (loq_7))).trans kq_7
  have kq_19 : (mset M1 o (ob 4 [.int 0, .null, .ref q_7, .int 0, .ref q_19, .ref q_31, .int 0, .int 0, .int 0, .int 0, .int 0])) q_19 = some (ob 0 [.ref s1, .int 0]) := (mset_ne (Nat.ne_of_gt (loq_19))).trans kq_19
  have ks1 : (mset M1 o (ob 4 [.int 0, .null, .ref q_7, .int 0, .ref q_19, .ref q_31, .int 0, .int 0, .int 0, .int 0, .int 0])) s1 = some (aQ cM 4 (fun j => if j < 4 then some (a1 j) else none)) := (mset_ne (Nat.ne_of_gt (los1))).trans ks1
  have kq_31 : (mset M1 o (ob 4 [.int 0, .null, .ref q_7, .int 0, .ref q_19, .ref q_31, .int 0, .int 0, .int 0, .int 0, .int 0])) q_31 = some (ob 0 [.ref s2, .int 0]) := (mset_ne (Nat.ne_of_gt (loq_31))).trans kq_31
  have ks2 : (mset M1 o (ob 4 [.int 0, .null, .ref q_7, .int 0, .ref q_19, .ref q_31, .int 0, .int 0, .int 0, .int 0, .int 0])) s2 = some (aQ cM 16 (fun j => if j < 16 then some (a2 j) else none)) := (mset_ne (Nat.ne_of_gt (los2))).trans ks2
  have ka1 : ∀ j, j < 4 → (mset M1 o (ob 4 [.int 0, .null, .ref q_7, .int 0, .ref q_19, .ref q_31, .int 0, .int 0, .int 0, .int 0, .int 0])) (a1 j) = some (ob 1 [.int 0, .int 0, .int 0, .int 0, .int 0, .int 0]) := fun j hj => (mset_ne (Nat.ne_of_gt (loa1 j hj))).trans (ka1 j hj)
  have ka2 : ∀ j, j < 16 → (mset M1 o (ob 4 [.int 0, .null, .ref q_7, .int 0, .ref q_19, .ref q_31, .int 0, .int 0, .int 0, .int 0, .int 0])) (a2 j) = some (ob 1 [.int 0, .int 0, .int 0, .int 0, .int 0, .int 0]) := fun j hj => (mset_ne (Nat.ne_of_gt (loa2 j hj))).trans (ka2 j hj)
  have ko : (mset M1 o (ob 4 [.int 0, .null, .ref q_7, .int 0, .ref q_19, .ref q_31, .int 0, .int 0, .int 0, .int 0, .int 0])) o = some (ob 4 [.int 0, .null, .ref q_7, .int 0, .ref q_19, .ref q_31, .int 0, .int 0, .int 0, .int 0, .int 0]) := mset_self _ _ _
  revert kq_7 kq_19 ks1 kq_31 ks2 ka1 ka2 ko
  generalize mset M1 o (ob 4 [.int 0, .null, .ref q_7, .int 0, .ref q_19, .ref q_31, .int 0, .int 0, .int 0, .int 0, .int 0]) = M1
  intro kq_7 kq_19 ks1 kq_31 ks2 ka1 ka2 ko
  refine v_aload_n C (i := 0) d_Bs_init_53 rfl rfl ?_
  refine v_iconst C (v := 0) d_Bs_init_54 (by decide) ?_
  refine v_put C in_Bs t_Bs to_Bs nm_Bs ko cl_Bs 8 (by decide) (fs' := [.int 0, .null, .ref q_7, .int 0, .ref q_19, .ref q_31, .int 0, .int 0, .int 0, .int 0, .int 0]) w_111 rfl rfl rfl rfl (Nat.le_of_ble_eq_true rfl) rfl d_Bs_init_55 ?_
  have kq_7 : (mset M1 o (ob 4 [.int 0, .null, .ref q_7, .int 0, .ref q_19, .ref q_31, .int 0, .int 0, .int 0, .int 0, .int 0])) q_7 = some (aQ cR 120 (fun _ => none)) := (mset_ne (Nat.ne_of_gt (loq_7))).trans kq_7
  have kq_19 : (mset M1 o (ob 4 [.int 0, .null, .ref q_7, .int 0, .ref q_19, .ref q_31, .int 0, .int 0, .int 0, .int 0, .int 0])) q_19 = some (ob 0 [.ref s1, .int 0]) := (mset_ne (Nat.ne_of_gt (loq_19))).trans kq_19
  have ks1 : (mset M1 o (ob 4 [.int 0, .null, .ref q_7, .int 0, .ref q_19, .ref q_31, .int 0, .int 0, .int 0, .int 0, .int 0])) s1 = some (aQ cM 4 (fun j => if j < 4 then some (a1 j) else none)) := (mset_ne (Nat.ne_of_gt (los1))).trans ks1
  have kq_31 : (mset M1 o (ob 4 [.int 0, .null, .ref q_7, .int 0, .ref q_19, .ref q_31, .int 0, .int 0, .int 0, .int 0, .int 0])) q_31 = some (ob 0 [.ref s2, .int 0]) := (mset_ne (Nat.ne_of_gt (loq_31))).trans kq_31
  have ks2 : (mset M1 o (ob 4 [.int 0, .null, .ref q_7, .int 0, .ref q_19, .ref q_31, .int 0, .int 0, .int 0, .int 0, .int 0])) s2 = some (aQ cM 16 (fun j => if j < 16 then some (a2 j) else none)) := (mset_ne (Nat.ne_of_gt (los2))).trans ks2
  have ka1 : ∀ j, j < 4 → (mset M1 o (ob 4 [.int 0, .null, .ref q_7, .int 0, .ref q_19, .ref q_31, .int 0, .int 0, .int 0, .int 0, .int 0])) (a1 j) = some (ob 1 [.int 0, .int 0, .int 0, .int 0, .int 0, .int 0]) := fun j hj => (mset_ne (Nat.ne_of_gt (loa1 j hj))).trans (ka1 j hj)
  have ka2 : ∀ j, j < 16 → (mset M1 o (ob 4 [.int 0, .null, .ref q_7, .int 0, .ref q_19, .ref q_31, .int 0, .int 0, .int 0, .int 0, .int 0])) (a2 j) = some (ob 1 [.int 0, .int 0, .int 0, .int 0, .int 0, .int 0]) := fun j hj => (mset_ne (Nat.ne_of_gt (loa2 j hj))).trans (ka2 j hj)
  have ko : (mset M1 o (ob 4 [.int 0, .null, .ref q_7, .int 0, .ref q_19, .ref q_31, .int 0, .int 0, .int 0, .int 0, .int 0])) o = some (ob 4 [.int 0, .null, .ref q_7, .int 0, .ref q_19, .ref q_31, .int 0, .int 0, .int 0, .int 0, .int 0]) := mset_self _ _ _
  revert kq_7 kq_19 ks1 kq_31 ks2 ka1 ka2 ko
  generalize mset M1 o (ob 4 [.int 0, .null, .ref q_7, .int 0, .ref q_19, .ref q_31, .int 0, .int 0, .int 0, .int 0, .int 0]) = M1
  intro kq_7 kq_19 ks1 kq_31 ks2 ka1 ka2 ko
  refine v_aload_n C (i := 0) d_Bs_init_58 rfl rfl ?_
  refine v_iconst C (v := 0) d_Bs_init_59 (by decide) ?_
  refine v_put C in_Bs t_Bs to_Bs nm_Bs ko cl_Bs 9 (by decide) (fs' := [.int 0, .null, .ref q_7, .int 0, .ref q_19, .ref q_31, .int 0, .int 0, .int 0, .int 0, .int 0]) w_112 rfl rfl rfl rfl (Nat.le_of_ble_eq_true rfl) rfl d_Bs_init_60 ?_
  have kq_7 : (mset M1 o (ob 4 [.int 0, .null, .ref q_7, .int 0, .ref q_19, .ref q_31, .int 0, .int 0, .int 0, .int 0, .int 0])) q_7 = some (aQ cR 120 (fun _ => none)) := (mset_ne (Nat.ne_of_gt (loq_7))).trans kq_7
  have kq_19 : (mset M1 o (ob 4 [.int 0, .null, .ref q_7, .int 0, .ref q_19, .ref q_31, .int 0, .int 0, .int 0, .int 0, .int 0])) q_19 = some (ob 0 [.ref s1, .int 0]) := (mset_ne (Nat.ne_of_gt (loq_19))).trans kq_19
  have ks1 : (mset M1 o (ob 4 [.int 0, .null, .ref q_7, .int 0, .ref q_19, .ref q_31, .int 0, .int 0, .int 0, .int 0, .int 0])) s1 = some (aQ cM 4 (fun j => if j < 4 then some (a1 j) else none)) := (mset_ne (Nat.ne_of_gt (los1))).trans ks1
  have kq_31 : (mset M1 o (ob 4 [.int 0, .null, .ref q_7, .int 0, .ref q_19, .ref q_31, .int 0, .int 0, .int 0, .int 0, .int 0])) q_31 = some (ob 0 [.ref s2, .int 0]) := (mset_ne (Nat.ne_of_gt (loq_31))).trans kq_31
  have ks2 : (mset M1 o (ob 4 [.int 0, .null, .ref q_7, .int 0, .ref q_19, .ref q_31, .int 0, .int 0, .int 0, .int 0, .int 0])) s2 = some (aQ cM 16 (fun j => if j < 16 then some (a2 j) else none)) := (mset_ne (Nat.ne_of_gt (los2))).trans ks2
  have ka1 : ∀ j, j < 4 → (mset M1 o (ob 4 [.int 0, .null, .ref q_7, .int 0, .ref q_19, .ref q_31, .int 0, .int 0, .int 0, .int 0, .int 0])) (a1 j) = some (ob 1 [.int 0, .int 0, .int 0, .int 0, .int 0, .int 0]) := fun j hj => (mset_ne (Nat.ne_of_gt (loa1 j hj))).trans (ka1 j hj)
  have ka2 : ∀ j, j < 16 → (mset M1 o (ob 4 [.int 0, .null, .ref q_7, .int 0, .ref q_19, .ref q_31, .int 0, .int 0, .int 0, .int 0, .int 0])) (a2 j) = some (ob 1 [.int 0, .int 0, .int 0, .int 0, .int 0, .int 0]) := fun j hj => (mset_ne (Nat.ne_of_gt (loa2 j hj))).trans (ka2 j hj)
  have ko : (mset M1 o (ob 4 [.int 0, .null, .ref q_7, .int 0, .ref q_19, .ref q_31, .int 0, .int 0, .int 0, .int 0, .int 0])) o = some (ob 4 [.int 0, .null, .ref q_7, .int 0, .ref q_19, .ref q_31, .int 0, .int 0, .int 0, .int 0, .int 0]) := mset_self _ _ _
  revert kq_7 kq_19 ks1 kq_31 ks2 ka1 ka2 ko
  generalize mset M1 o (ob 4 [.int 0, .null, .ref q_7, .int 0, .ref q_19, .ref q_31, .int 0, .int 0, .int 0, .int 0, .int 0]) = M1
  intro kq_7 kq_19 ks1 kq_31 ks2 ka1 ka2 ko
  refine v_aload_n C (i := 0) d_Bs_init_63 rfl rfl ?_
  refine v_iconst C (v := 0) d_Bs_init_64 (by decide) ?_
  refine v_put C in_Bs t_Bs to_Bs nm_Bs ko cl_Bs 10 (by decide) (fs' := [.int 0, .null, .ref q_7, .int 0, .ref q_19, .ref q_31, .int 0, .int 0, .int 0, .int 0, .int 0]) w_113 rfl rfl rfl rfl (Nat.le_of_ble_eq_true rfl) rfl d_Bs_init_65 ?_
  have kq_7 : (mset M1 o (ob 4 [.int 0, .null, .ref q_7, .int 0, .ref q_19, .ref q_31, .int 0, .int 0, .int 0, .int 0, .int 0])) q_7 = some (aQ cR 120 (fun _ => none)) := (mset_ne (Nat.ne_of_gt (loq_7))).trans kq_7
  have kq_19 : (mset M1 o (ob 4 [.int 0, .null, .ref q_7, .int 0, .ref q_19, .ref q_31, .int 0, .int 0, .int 0, .int 0, .int 0])) q_19 = some (ob 0 [.ref s1, .int 0]) := (mset_ne (Nat.ne_of_gt (loq_19))).trans kq_19
  have ks1 : (mset M1 o (ob 4 [.int 0, .null, .ref q_7, .int 0, .ref q_19, .ref q_31, .int 0, .int 0, .int 0, .int 0, .int 0])) s1 = some (aQ cM 4 (fun j => if j < 4 then some (a1 j) else none)) := (mset_ne (Nat.ne_of_gt (los1))).trans ks1
  have kq_31 : (mset M1 o (ob 4 [.int 0, .null, .ref q_7, .int 0, .ref q_19, .ref q_31, .int 0, .int 0, .int 0, .int 0, .int 0])) q_31 = some (ob 0 [.ref s2, .int 0]) := (mset_ne (Nat.ne_of_gt (loq_31))).trans kq_31
  have ks2 : (mset M1 o (ob 4 [.int 0, .null, .ref q_7, .int 0, .ref q_19, .ref q_31, .int 0, .int 0, .int 0, .int 0, .int 0])) s2 = some (aQ cM 16 (fun j => if j < 16 then some (a2 j) else none)) := (mset_ne (Nat.ne_of_gt (los2))).trans ks2
  have ka1 : ∀ j, j < 4 → (mset M1 o (ob 4 [.int 0, .null, .ref q_7, .int 0, .ref q_19, .ref q_31, .int 0, .int 0, .int 0, .int 0, .int 0])) (a1 j) = some (ob 1 [.int 0, .int 0, .int 0, .int 0, .int 0, .int 0]) := fun j hj => (mset_ne (Nat.ne_of_gt (loa1 j hj))).trans (ka1 j hj)
  have ka2 : ∀ j, j < 16 → (mset M1 o (ob 4 [.int 0, .null, .ref q_7, .int 0, .ref q_19, .ref q_31, .int 0, .int 0, .int 0, .int 0, .int 0])) (a2 j) = some (ob 1 [.int 0, .int 0, .int 0, .int 0, .int 0, .int 0]) := fun j hj => (mset_ne (Nat.ne_of_gt (loa2 j hj))).trans (ka2 j hj)
  have ko : (mset M1 o (ob 4 [.int 0, .null, .ref q_7, .int 0, .ref q_19, .ref q_31, .int 0, .int 0, .int 0, .int 0, .int 0])) o = some (ob 4 [.int 0, .null, .ref q_7, .int 0, .ref q_19, .ref q_31, .int 0, .int 0, .int 0, .int 0, .int 0]) := mset_self _ _ _
  revert kq_7 kq_19 ks1 kq_31 ks2 ka1 ka2 ko
  generalize mset M1 o (ob 4 [.int 0, .null, .ref q_7, .int 0, .ref q_19, .ref q_31, .int 0, .int 0, .int 0, .int 0, .int 0]) = M1
  intro kq_7 kq_19 ks1 kq_31 ks2 ka1 ka2 ko
  refine v_aload_n C (i := 0) d_Bs_init_68 rfl rfl ?_
  refine v_iload_n C (i := 1) d_Bs_init_69 rfl rfl ?_
  refine v_iconst C (v := 1) d_Bs_init_70 (by decide) ?_
  refine v_iconst C (v := 4) d_Bs_init_71 (by decide) ?_
  refine v_callS C (As := [.int x, .int 1, .int 4]) (rest := [.ref o]) w_66 (ct_Bs_clamp x 1 4) (Nat.le_of_ble_eq_true rfl) (Nat.le_of_ble_eq_true rfl) w_67 w_1 hy_Bs_clamp w_65 rfl (Nat.le_of_ble_eq_true rfl) ⟨by decide, by decide⟩ d_Bs_init_72 (fun rv M hp => ?_)
  obtain ⟨rfl, hM9⟩ := hp
  have hM9 := hM9.symm
  subst hM9
  refine V.eqst (st' := [.int (clampI x 1 4), .ref o]) rfl (V.cs (k' := 25) (n' := 264) rfl rfl ?_)
  refine v_putF C in_Bs t_Bs to_Bs nm_Bs ko cl_Bs 0 (by decide) (fs' := [.int (clampI x 1 4), .null, .ref q_7, .int 0, .ref q_19, .ref q_31, .int 0, .int 0, .int 0, .int 0, .int 0]) w_103 rfl rfl hnm rfl rfl rfl (Nat.le_of_ble_eq_true rfl) rfl d_Bs_init_75 ?_
  have kq_7 : (mset M1 o (ob 4 [.int (clampI x 1 4), .null, .ref q_7, .int 0, .ref q_19, .ref q_31, .int 0, .int 0, .int 0, .int 0, .int 0])) q_7 = some (aQ cR 120 (fun _ => none)) := (mset_ne (Nat.ne_of_gt (loq_7))).trans kq_7
  have kq_19 : (mset M1 o (ob 4 [.int (clampI x 1 4), .null, .ref q_7, .int 0, .ref q_19, .ref q_31, .int 0, .int 0, .int 0, .int 0, .int 0])) q_19 = some (ob 0 [.ref s1, .int 0]) := (mset_ne (Nat.ne_of_gt (loq_19))).trans kq_19
  have ks1 : (mset M1 o (ob 4 [.int (clampI x 1 4), .null, .ref q_7, .int 0, .ref q_19, .ref q_31, .int 0, .int 0, .int 0, .int 0, .int 0])) s1 = some (aQ cM 4 (fun j => if j < 4 then some (a1 j) else none)) := (mset_ne (Nat.ne_of_gt (los1))).trans ks1
  have kq_31 : (mset M1 o (ob 4 [.int (clampI x 1 4), .null, .ref q_7, .int 0, .ref q_19, .ref q_31, .int 0, .int 0, .int 0, .int 0, .int 0])) q_31 = some (ob 0 [.ref s2, .int 0]) := (mset_ne (Nat.ne_of_gt (loq_31))).trans kq_31
  have ks2 : (mset M1 o (ob 4 [.int (clampI x 1 4), .null, .ref q_7, .int 0, .ref q_19, .ref q_31, .int 0, .int 0, .int 0, .int 0, .int 0])) s2 = some (aQ cM 16 (fun j => if j < 16 then some (a2 j) else none)) := (mset_ne (Nat.ne_of_gt (los2))).trans ks2
  have ka1 : ∀ j, j < 4 → (mset M1 o (ob 4 [.int (clampI x 1 4), .null, .ref q_7, .int 0, .ref q_19, .ref q_31, .int 0, .int 0, .int 0, .int 0, .int 0])) (a1 j) = some (ob 1 [.int 0, .int 0, .int 0, .int 0, .int 0, .int 0]) := fun j hj => (mset_ne (Nat.ne_of_gt (loa1 j hj))).trans (ka1 j hj)
  have ka2 : ∀ j, j < 16 → (mset M1 o (ob 4 [.int (clampI x 1 4), .null, .ref q_7, .int 0, .ref q_19, .ref q_31, .int 0, .int 0, .int 0, .int 0, .int 0])) (a2 j) = some (ob 1 [.int 0, .int 0, .int 0, .int 0, .int 0, .int 0]) := fun j hj => (mset_ne (Nat.ne_of_gt (loa2 j hj))).trans (ka2 j hj)
  have ko : (mset M1 o (ob 4 [.int (clampI x 1 4), .null, .ref q_7, .int 0, .ref q_19, .ref q_31, .int 0, .int 0, .int 0, .int 0, .int 0])) o = some (ob 4 [.int (clampI x 1 4), .null, .ref q_7, .int 0, .ref q_19, .ref q_31, .int 0, .int 0, .int 0, .int 0, .int 0]) := mset_self _ _ _
  revert kq_7 kq_19 ks1 kq_31 ks2 ka1 ka2 ko
  generalize mset M1 o (ob 4 [.int (clampI x 1 4), .null, .ref q_7, .int 0, .ref q_19, .ref q_31, .int 0, .int 0, .int 0, .int 0, .int 0]) = M1
  intro kq_7 kq_19 ks1 kq_31 ks2 ka1 ka2 ko
  refine v_aload_n C (i := 0) d_Bs_init_78 rfl rfl ?_
  refine v_new C (fs := [.int 0, .null, .null, .null, .int 0]) in_St t_St to_St w_74 w_75 w_5 cl_St (fun j hj => by rcases (show j = 0 ∨ j = 1 ∨ j = 2 ∨ j = 3 ∨ j = 4 by omega) with rfl | rfl | rfl | rfl | rfl <;> rfl) (by decide) (by decide) d_Bs_init_79 (fun q_79 hq_79 oq_79 => ?_)
  refine V.eqst (st' := [.ref q_79, .ref o]) rfl (V.cs (k' := 26) (n' := 269) rfl rfl ?_)
  have loq_79 : o < q_79 := oq_79 _ _ ko
  have lq_7q_79 : q_7 < q_79 := oq_79 _ _ kq_7
  have lq_19q_79 : q_19 < q_79 := oq_79 _ _ kq_19
  have ls1q_79 : s1 < q_79 := oq_79 _ _ ks1
  have lq_31q_79 : q_31 < q_79 := oq_79 _ _ kq_31
  have ls2q_79 : s2 < q_79 := oq_79 _ _ ks2
  have la1q_79 : ∀ j, j < 4 → a1 j < q_79 := fun j hj => oq_79 _ _ (ka1 j hj)
  have la2q_79 : ∀ j, j < 16 → a2 j < q_79 := fun j hj => oq_79 _ _ (ka2 j hj)
  have loq_79 : o < q_79 := oq_79 _ _ ko
  have ko : (mset M1 q_79 (ob 3 [.int 0, .null, .null, .null, .int 0])) o = some (ob 4 [.int (clampI x 1 4), .null, .ref q_7, .int 0, .ref q_19, .ref q_31, .int 0, .int 0, .int 0, .int 0, .int 0]) := (mset_ne (fr_ne hq_79 ko)).trans ko
  have kq_7 : (mset M1 q_79 (ob 3 [.int 0, .null, .null, .null, .int 0])) q_7 = some (aQ cR 120 (fun _ => none)) := (mset_ne (fr_ne hq_79 kq_7)).trans kq_7
  have kq_19 : (mset M1 q_79 (ob 3 [.int 0, .null, .null, .null, .int 0])) q_19 = some (ob 0 [.ref s1, .int 0]) := (mset_ne (fr_ne hq_79 kq_19)).trans kq_19
  have ks1 : (mset M1 q_79 (ob 3 [.int 0, .null, .null, .null, .int 0])) s1 = some (aQ cM 4 (fun j => if j < 4 then some (a1 j) else none)) := (mset_ne (fr_ne hq_79 ks1)).trans ks1
  have kq_31 : (mset M1 q_79 (ob 3 [.int 0, .null, .null, .null, .int 0])) q_31 = some (ob 0 [.ref s2, .int 0]) := (mset_ne (fr_ne hq_79 kq_31)).trans kq_31
  have ks2 : (mset M1 q_79 (ob 3 [.int 0, .null, .null, .null, .int 0])) s2 = some (aQ cM 16 (fun j => if j < 16 then some (a2 j) else none)) := (mset_ne (fr_ne hq_79 ks2)).trans ks2
  have ka1 : ∀ j, j < 4 → (mset M1 q_79 (ob 3 [.int 0, .null, .null, .null, .int 0])) (a1 j) = some (ob 1 [.int 0, .int 0, .int 0, .int 0, .int 0, .int 0]) := fun j hj => (mset_ne (fr_ne hq_79 (ka1 j hj))).trans (ka1 j hj)
  have ka2 : ∀ j, j < 16 → (mset M1 q_79 (ob 3 [.int 0, .null, .null, .null, .int 0])) (a2 j) = some (ob 1 [.int 0, .int 0, .int 0, .int 0, .int 0, .int 0]) := fun j hj => (mset_ne (fr_ne hq_79 (ka2 j hj))).trans (ka2 j hj)
  have kq_79 : (mset M1 q_79 (ob 3 [.int 0, .null, .null, .null, .int 0])) q_79 = some (ob 3 [.int 0, .null, .null, .null, .int 0]) := mset_self _ _ _
  revert ko kq_7 kq_19 ks1 kq_31 ks2 ka1 ka2 kq_79
  generalize mset M1 q_79 (ob 3 [.int 0, .null, .null, .null, .int 0]) = M1
  intro ko kq_7 kq_19 ks1 kq_31 ks2 ka1 ka2 kq_79
  refine v_dup C d_Bs_init_82 rfl ?_
  refine v_iload_n C (i := 2) d_Bs_init_83 rfl rfl ?_
  refine v_iconst C (v := 1) d_Bs_init_84 (by decide) ?_
  refine v_bipush C (v := 6) d_Bs_init_85 (by decide) ?_
  refine v_callS C (As := [.int y, .int 1, .int 6]) (rest := [.ref q_79, .ref q_79, .ref o]) w_66 (ct_Bs_clamp y 1 6) (Nat.le_of_ble_eq_true rfl) (Nat.le_of_ble_eq_true rfl) w_67 w_1 hy_Bs_clamp w_65 rfl (Nat.le_of_ble_eq_true rfl) ⟨by decide, by decide⟩ d_Bs_init_87 (fun rv M hp => ?_)
  obtain ⟨rfl, hM9⟩ := hp
  have hM9 := hM9.symm
  subst hM9
  refine V.eqst (st' := [.int (clampI y 1 6), .ref q_79, .ref q_79, .ref o]) rfl (V.cs (k' := 26) (n' := 269) rfl rfl ?_)
  obtain ⟨rm, hr1, hr6, erm⟩ := clamp_rm y
  refine V.eqst (st' := [.int (nI rm), .ref q_79, .ref q_79, .ref o]) (by rw [erm]) ?_
  refine v_callI C (As := [.int (nI rm)]) (rest := [.ref q_79, .ref o]) rfl w_77 (ct_St_init rm hr6 kq_79) (Nat.le_of_ble_eq_true rfl) (Nat.le_of_ble_eq_true rfl) w_78 w_5 hy_St_init w_76 rfl (Nat.le_of_ble_eq_true rfl) ⟨by decide, by decide⟩ d_Bs_init_90 (fun rv M hp => ?_)
  obtain ⟨rfl, dk, cb, cv, p1, p2, p3, p4, p5, p6, p7, p8, p9⟩ := hp
  have ko := p9 _ _ (Nat.ne_of_lt loq_79) ko
  have kq_7 := p9 _ _ (Nat.ne_of_lt lq_7q_79) kq_7
  have kq_19 := p9 _ _ (Nat.ne_of_lt lq_19q_79) kq_19
  have ks1 := p9 _ _ (Nat.ne_of_lt ls1q_79) ks1
  have kq_31 := p9 _ _ (Nat.ne_of_lt lq_31q_79) kq_31
  have ks2 := p9 _ _ (Nat.ne_of_lt ls2q_79) ks2
  have ka1 := fun j (hj : j < 4) => p9 _ _ (Nat.ne_of_lt (la1q_79 j hj)) (ka1 j hj)
  have ka2 := fun j (hj : j < 16) => p9 _ _ (Nat.ne_of_lt (la2q_79 j hj)) (ka2 j hj)
  have kq_79 := p5
  have kdk := p6
  have kcb := p7
  have kcv := p8
  have lodk : o < dk := Nat.lt_trans loq_79 p2
  have locb : o < cb := Nat.lt_trans lodk p3
  have locv : o < cv := Nat.lt_trans locb p4
  refine V.eqst (st' := [.ref q_79, .ref o]) rfl (V.cs (k' := 29) (n' := 299) rfl rfl ?_)
  refine v_putF C in_Bs t_Bs to_Bs nm_Bs ko cl_Bs 1 (by decide) (fs' := [.int (clampI x 1 4), .ref q_79, .ref q_7, .int 0, .ref q_19, .ref q_31, .int 0, .int 0, .int 0, .int 0, .int 0]) w_104 rfl rfl hnm rfl rfl rfl (Nat.le_of_ble_eq_true rfl) rfl d_Bs_init_93 ?_
  have kq_7 : (mset M o (ob 4 [.int (clampI x 1 4), .ref q_79, .ref q_7, .int 0, .ref q_19, .ref q_31, .int 0, .int 0, .int 0, .int 0, .int 0])) q_7 = some (aQ cR 120 (fun _ => none)) := (mset_ne (Nat.ne_of_gt (loq_7))).trans kq_7
  have kq_19 : (mset M o (ob 4 [.int (clampI x 1 4), .ref q_79, .ref q_7, .int 0, .ref q_19, .ref q_31, .int 0, .int 0, .int 0, .int 0, .int 0])) q_19 = some (ob 0 [.ref s1, .int 0]) := (mset_ne (Nat.ne_of_gt (loq_19))).trans kq_19
  have ks1 : (mset M o (ob 4 [.int (clampI x 1 4), .ref q_79, .ref q_7, .int 0, .ref q_19, .ref q_31, .int 0, .int 0, .int 0, .int 0, .int 0])) s1 = some (aQ cM 4 (fun j => if j < 4 then some (a1 j) else none)) := (mset_ne (Nat.ne_of_gt (los1))).trans ks1
  have kq_31 : (mset M o (ob 4 [.int (clampI x 1 4), .ref q_79, .ref q_7, .int 0, .ref q_19, .ref q_31, .int 0, .int 0, .int 0, .int 0, .int 0])) q_31 = some (ob 0 [.ref s2, .int 0]) := (mset_ne (Nat.ne_of_gt (loq_31))).trans kq_31
  have ks2 : (mset M o (ob 4 [.int (clampI x 1 4), .ref q_79, .ref q_7, .int 0, .ref q_19, .ref q_31, .int 0, .int 0, .int 0, .int 0, .int 0])) s2 = some (aQ cM 16 (fun j => if j < 16 then some (a2 j) else none)) := (mset_ne (Nat.ne_of_gt (los2))).trans ks2
  have kq_79 : (mset M o (ob 4 [.int (clampI x 1 4), .ref q_79, .ref q_7, .int 0, .ref q_19, .ref q_31, .int 0, .int 0, .int 0, .int 0, .int 0])) q_79 = some (ob 3 [.int (nI rm), .ref dk, .ref cb, .ref cv, .int 0]) := (mset_ne (Nat.ne_of_gt (loq_79))).trans kq_79
  have kdk : (mset M o (ob 4 [.int (clampI x 1 4), .ref q_79, .ref q_7, .int 0, .ref q_19, .ref q_31, .int 0, .int 0, .int 0, .int 0, .int 0])) dk = some (aI cI 16 (fun _ => 0)) := (mset_ne (Nat.ne_of_gt (lodk))).trans kdk
  have kcb : (mset M o (ob 4 [.int (clampI x 1 4), .ref q_79, .ref q_7, .int 0, .ref q_19, .ref q_31, .int 0, .int 0, .int 0, .int 0, .int 0])) cb = some (aI cI (rm + 1) (fun _ => 0)) := (mset_ne (Nat.ne_of_gt (locb))).trans kcb
  have kcv : (mset M o (ob 4 [.int (clampI x 1 4), .ref q_79, .ref q_7, .int 0, .ref q_19, .ref q_31, .int 0, .int 0, .int 0, .int 0, .int 0])) cv = some (aI cI (rm + 1) (fun _ => 0)) := (mset_ne (Nat.ne_of_gt (locv))).trans kcv
  have ka1 : ∀ j, j < 4 → (mset M o (ob 4 [.int (clampI x 1 4), .ref q_79, .ref q_7, .int 0, .ref q_19, .ref q_31, .int 0, .int 0, .int 0, .int 0, .int 0])) (a1 j) = some (ob 1 [.int 0, .int 0, .int 0, .int 0, .int 0, .int 0]) := fun j hj => (mset_ne (Nat.ne_of_gt (loa1 j hj))).trans (ka1 j hj)
  have ka2 : ∀ j, j < 16 → (mset M o (ob 4 [.int (clampI x 1 4), .ref q_79, .ref q_7, .int 0, .ref q_19, .ref q_31, .int 0, .int 0, .int 0, .int 0, .int 0])) (a2 j) = some (ob 1 [.int 0, .int 0, .int 0, .int 0, .int 0, .int 0]) := fun j hj => (mset_ne (Nat.ne_of_gt (loa2 j hj))).trans (ka2 j hj)
  have ko : (mset M o (ob 4 [.int (clampI x 1 4), .ref q_79, .ref q_7, .int 0, .ref q_19, .ref q_31, .int 0, .int 0, .int 0, .int 0, .int 0])) o = some (ob 4 [.int (clampI x 1 4), .ref q_79, .ref q_7, .int 0, .ref q_19, .ref q_31, .int 0, .int 0, .int 0, .int 0, .int 0]) := mset_self _ _ _
  revert kq_7 kq_19 ks1 kq_31 ks2 kq_79 kdk kcb kcv ka1 ka2 ko
  generalize mset M o (ob 4 [.int (clampI x 1 4), .ref q_79, .ref q_7, .int 0, .ref q_19, .ref q_31, .int 0, .int 0, .int 0, .int 0, .int 0]) = M1
  intro kq_7 kq_19 ks1 kq_31 ks2 kq_79 kdk kcb kcv ka1 ka2 ko
  refine v_aload_n C (i := 0) d_Bs_init_96 rfl rfl ?_
  obtain ⟨ad, e0, h⟩ := R1.start (clampI x 1 4) rm loq_7 lq_7q_19 lq_19s1 lsla1 lma1 la1q_31 lq_31s2 lsla2 lma2 la2q_79 p2 p3 p4 ko kq_79 kdk kcb kcv kq_7 kq_19 ks1 kq_31 ks2 ka1 ka2
  subst e0
  refine v_callV C (As := []) (rest := []) h.o cl_Bs rfl w_101 wp_0 (ct_Bs_beginSession h) (Nat.le_of_ble_eq_true rfl) (Nat.le_of_ble_eq_true rfl) w_102 w_1 hy_Bs_beginSession w_99 rfl (Nat.le_of_ble_eq_true rfl) ⟨by decide, by decide⟩ d_Bs_init_97 (fun rv M hp => ?_)
  obtain ⟨rfl, hw⟩ := hp
  refine V.eqst (st' := []) rfl (V.cs (k' := 29) (n' := 299) rfl rfl ?_)
  exact v_vret hQ C rfl d_Bs_init_100 (by omega) (by omega) ⟨rfl, ad, rm, hr1, hr6, erm, rfl, hw⟩
end
section
/-! The reference's state, and how the memory holds it. -/
/-- ints: 0 window, 1 room, 2 clock, 3 requests, 4 open, 5 sends, 6 dones, 7 credit, 8 sessions. tables: 1 disk, 2 kept, 3 stamp, 4 kind, 5 first, 6 length, 7 value, 8 state, 9 results, 10 request, 11 kind, 12 number, 13 value, 14 carried, 15 damaged of messages (64 a line), 16 held. -/
abbrev G2 : Type := (Nat → Int32) × (Nat → Nat → Int32)
abbrev G2.I (G : G2) : Nat → Int32 := G.1
abbrev G2.T (G : G2) : Nat → Nat → Int32 := G.2
def G2.sI (G : G2) (k : Nat) (v : Int32) : G2 := (va_up G.1 k v, G.2)
def G2.sT (G : G2) (k : Nat) (f : Nat → Int32) : G2 := (G.1, va_up G.2 k f)
def ln2 (k : Nat) : Nat := if k ≤ 3 then 16 else if k ≤ 8 then 120 else if k = 9 then 360 else if k ≤ 15 then 128 else 2
abbrev df (ad : Nat → Nat) (G : G2) : List Value := [.int (G.I 0), .int (G.I 1), .ref (ad 1), .ref (ad 2), .ref (ad 3), .int (G.I 2), .ref (ad 4), .ref (ad 5), .ref (ad 6), .ref (ad 7), .ref (ad 8), .ref (ad 9), .int (G.I 3), .ref (ad 10), .ref (ad 11), .ref (ad 12), .ref (ad 13), .ref (ad 14), .ref (ad 15), .ref (ad 16), .int (G.I 4), .int (G.I 5), .int (G.I 6), .int (G.I 7), .int (G.I 8)]
def R2 (cI cZ : ClassId) (M : Mem) (ad : Nat → Nat) (G : G2) : Prop :=
  (∀ t t', t < 17 → t' < 17 → ad t = ad t' → t = t') ∧ M (ad 0) = some (ob 5 (df ad G)) ∧ ∀ k, 1 ≤ k → k ≤ 16 → M (ad k) = some (aI (if k = 15 then cZ else cI) (ln2 k) (G.T k))
section R2S
variable {cI cZ : ClassId} {M : Mem} {ad : Nat → Nat} {G : G2}
theorem R2.inj (h : R2 cI cZ M ad G) {t t' : Nat} (ht : t < 17) (ht' : t' < 17) (hne : t ≠ t') : ad t ≠ ad t' := fun e => hne (h.1 t t' ht ht' e)
theorem R2.o (h : R2 cI cZ M ad G) : M (ad 0) = some (ob 5 (df ad G)) := h.2.1
theorem R2.a (h : R2 cI cZ M ad G) (k : Nat) (h1 : 1 ≤ k) (h2 : k ≤ 14) : M (ad k) = some (aI cI (ln2 k) (G.T k)) := by
  have := h.2.2 k h1 (by omega)
  rw [if_neg (by omega)] at this
  exact this
theorem R2.z (h : R2 cI cZ M ad G) : M (ad 15) = some (aI cZ 128 (G.T 15)) := h.2.2 15 (by decide) (by decide)
theorem R2.hd (h : R2 cI cZ M ad G) : M (ad 16) = some (aI cI 2 (G.T 16)) := h.2.2 16 (by decide) (by decide)
theorem R2.po (h : R2 cI cZ M ad G) (k : Nat) (v : Int32) : R2 cI cZ (mset M (ad 0) (ob 5 (df ad (G.sI k v)))) ad (G.sI k v) :=
  ⟨h.1, mset_self _ _ _, fun j h1 h2 => (mset_ne (h.inj (by omega) (by omega) (by omega))).trans (h.2.2 j h1 h2)⟩
theorem R2.pa (h : R2 cI cZ M ad G) (k : Nat) (h1 : 1 ≤ k) (h2 : k ≤ 16) (f : Nat → Int32) : R2 cI cZ (mset M (ad k) (aI (if k = 15 then cZ else cI) (ln2 k) f)) ad (G.sT k f) := by
  refine ⟨h.1, (mset_ne (h.inj (by omega) (by omega) (by omega))).trans h.o, fun j j1 j2 => ?_⟩
  by_cases c : j = k
  · subst c
    rw [mset_self]
    show _ = some (aI _ _ (va_up G.2 j f j))
    rw [va_up_self]
  · rw [mset_ne (h.inj (by omega) (by omega) c), h.2.2 j j1 j2]
    show _ = some (aI _ _ (va_up G.2 k f j))
    rw [va_up_ne _ _ c]
end R2S
/-- how many of the first n stamps are above 0 -/
def cpos (f : Nat → Int32) : Nat → Nat
  | 0 => 0
  | n + 1 => cpos f n + (if 0 < f n then 1 else 0)
theorem cpos_le (f : Nat → Int32) : ∀ n, cpos f n ≤ n
  | 0 => Nat.le_refl 0
  | n + 1 => by
    have := cpos_le f n
    unfold cpos
    split <;> omega
/-- how many stamps lie before that of b -/
def bef (f : Nat → Int32) (x : Int32) : Nat → Nat
  | 0 => 0
  | n + 1 => bef f x n + (if 0 < f n ∧ f n < x then 1 else 0)
theorem bef_le (f : Nat → Int32) (x : Int32) : ∀ n, bef f x n ≤ n
  | 0 => Nat.le_refl 0
  | n + 1 => by
    have := bef_le f x n
    unfold bef
    split <;> omega
def isAt (f : Nat → Int32) (p : Int32) (b : Nat) : Prop := 0 < f b ∧ nI (bef f (f b) 16) = p
def bAt (f : Nat → Int32) (p r : Int32) : Prop := (∃ b, b < 16 ∧ isAt f p b ∧ r = nI b) ∨ ((∀ b, b < 16 → ¬ isAt f p b) ∧ r = -3)
def G2.fl (G : G2) (b : Nat) : G2 := (G.sT 1 (upd (G.T 1) b (G.T 2 b))).sT 3 (upd (G.T 3) b 0)
def G2.flR (G : G2) (r : Int32) (G' : G2) : Prop := (∃ b, b < 16 ∧ isAt (G.T 3) 0 b ∧ r = nI b ∧ G' = G.fl b) ∨ ((∀ b, b < 16 → ¬ isAt (G.T 3) 0 b) ∧ r = -3 ∧ G' = G)
def G2.pt1 (G : G2) (b : Nat) (v : Int32) : G2 := G.sT 2 (upd (G.T 2) b v)
def G2.pt2 (G : G2) (b : Nat) (v : Int32) : G2 := ((G.pt1 b v).sI 2 (G.I 2 + 1)).sT 3 (upd (G.T 3) b (G.I 2 + 1))
def G2.ptR (G : G2) (b : Nat) (v : Int32) (G' : G2) : Prop :=
  (0 < G.T 3 b ∧ G' = G.pt1 b v) ∨ (¬ 0 < G.T 3 b ∧ ((nI (cpos ((G.pt2 b v).T 3) 16) ≤ G.I 1 ∧ G' = G.pt2 b v) ∨ (¬ nI (cpos ((G.pt2 b v).T 3) 16) ≤ G.I 1 ∧ ∃ r, (G.pt2 b v).flR r G')))
end
section
/-! pure: the reference's moves -/
def G2.pst (G : G2) (x sz : Nat) (a b c d e : Int32) : G2 := ((((((G.sT 10 (upd (G.T 10) (64 * x + sz) a)).sT 11 (upd (G.T 11) (64 * x + sz) b)).sT 12 (upd (G.T 12) (64 * x + sz) c)).sT 13 (upd (G.T 13) (64 * x + sz) d)).sT 14 (upd (G.T 14) (64 * x + sz) e)).sT 15 (upd (G.T 15) (64 * x + sz) 0)).sT 16 (upd (G.T 16) x (nI (sz + 1)))
def G2.fin (G : G2) (sz : Nat) (q : Int32) : G2 := (G.sI 6 (G.I 6 + 1)).pst 1 sz q 4 0 0 (G.I 6 + 1 + G.I 0)
def G2.vo (G : G2) (b : Nat) : Int32 := if G.T 3 b ≤ 0 then G.T 1 b else G.T 2 b
def G2.ptN (G : G2) (f : Nat) (v : Int32) : Nat → G2 → Prop
  | 0, G' => G' = G
  | k + 1, G' => ∃ G'', G.ptN f v k G'' ∧ G''.ptR (f + k) (v + nI k) G'
def G2.flN (G : G2) : Nat → G2 → Prop
  | 0, G' => G' = G
  | k + 1, G' => ∃ (G'' : G2) (r : Int32), G.flN k G'' ∧ G''.flR r G'
def G2.rdN (G : G2) (q : Int32) (f sz : Nat) : Nat → G2
  | 0 => G
  | k + 1 => (G.rdN q f sz k).pst 1 (sz + k) q 3 (nI k) (G.vo (f + k)) (G.I 6 + G.I 0)
theorem G2.sT_same (G : G2) (k : Nat) (y y' : Nat → Int32) : (G.sT k y).sT k y' = G.sT k y' := by
  have : va_up (va_up G.2 k y) k y' = va_up G.2 k y' := bx_uu _ _ _ _
  exact congrArg (fun z => ((G.1, z) : G2)) this
theorem G2.sT_id (G : G2) (k : Nat) : G.sT k (G.T k) = G := by
  have : va_up G.2 k (G.T k) = G.2 := by
    funext t
    by_cases h : t = k
    · subst h; rw [va_up_self]
    · rw [va_up_ne _ _ h]
  exact congrArg (fun z => ((G.1, z) : G2)) this
theorem sT2_ne (G : G2) (k t : Nat) (f : Nat → Int32) (h : t ≠ k) : (G.sT k f).T t = G.T t := va_up_ne _ _ h
theorem sT2_at (G : G2) (k : Nat) (f : Nat → Int32) : (G.sT k f).T k = f := va_up_self G.2 k f
theorem pst_low (G : G2) (x sz : Nat) (a b c d e : Int32) (t : Nat) (ht : t < 10) : (G.pst x sz a b c d e).T t = G.T t := by
  unfold G2.pst
  rw [sT2_ne _ _ _ _ (by omega), sT2_ne _ _ _ _ (by omega), sT2_ne _ _ _ _ (by omega), sT2_ne _ _ _ _ (by omega), sT2_ne _ _ _ _ (by omega), sT2_ne _ _ _ _ (by omega), sT2_ne _ _ _ _ (by omega)]
theorem pst_I (G : G2) (x sz : Nat) (a b c d e : Int32) : (G.pst x sz a b c d e).I = G.I := rfl
theorem pst_16 (G : G2) (x sz : Nat) (a b c d e : Int32) : (G.pst x sz a b c d e).T 16 = upd (G.T 16) x (nI (sz + 1)) := sT2_at _ _ _
theorem rdN_low (G : G2) (q : Int32) (f sz t : Nat) (ht : t < 10) : ∀ k, (G.rdN q f sz k).T t = G.T t
  | 0 => rfl
  | k + 1 => by
    show ((G.rdN q f sz k).pst 1 (sz + k) q 3 _ _ _).T t = _
    rw [pst_low _ _ _ _ _ _ _ _ _ ht, rdN_low G q f sz t ht k]
theorem rdN_I (G : G2) (q : Int32) (f sz : Nat) : ∀ k, (G.rdN q f sz k).I = G.I
  | 0 => rfl
  | k + 1 => rdN_I G q f sz k
theorem rdN_16 (G : G2) (q : Int32) (f sz : Nat) (h : G.T 16 1 = nI sz) : ∀ k, (G.rdN q f sz k).T 16 1 = nI (sz + k)
  | 0 => h
  | k + 1 => by
    show ((G.rdN q f sz k).pst 1 (sz + k) q 3 _ _ _).T 16 1 = _
    rw [pst_16, pk_us]
    rfl
theorem rdN_vo (G : G2) (q : Int32) (f sz b k : Nat) : (G.rdN q f sz k).vo b = G.vo b := by
  unfold G2.vo
  rw [rdN_low _ _ _ _ 3 (by omega), rdN_low _ _ _ _ 1 (by omega), rdN_low _ _ _ _ 2 (by omega)]
/-- what a flush leaves as it is -/
theorem flR_same {G G' : G2} {r : Int32} (h : G.flR r G') : G'.I = G.I ∧ ∀ t, t ≠ 1 → t ≠ 3 → G'.T t = G.T t := by
  rcases h with ⟨b, _, _, _, rfl⟩ | ⟨_, _, rfl⟩
  · exact ⟨rfl, fun t h1 h3 => by show ((G.sT 1 _).sT 3 _).T t = _; rw [sT2_ne _ _ _ _ h3, sT2_ne _ _ _ _ h1]⟩
  · exact ⟨rfl, fun t _ _ => rfl⟩
theorem flN_same {G : G2} : ∀ {k : Nat} {G' : G2}, G.flN k G' → G'.I = G.I ∧ ∀ t, t ≠ 1 → t ≠ 3 → G'.T t = G.T t
  | 0, _, h => by subst h; exact ⟨rfl, fun _ _ _ => rfl⟩
  | k + 1, _, ⟨G'', r, h1, h2⟩ => by
    have a := flN_same h1
    have b := flR_same h2
    exact ⟨b.1.trans a.1, fun t x y => (b.2 t x y).trans (a.2 t x y)⟩
theorem ptR_same {G G' : G2} {b : Nat} {v : Int32} (h : G.ptR b v G') : (∀ k, k ≠ 2 → G'.I k = G.I k) ∧ ∀ t, 4 ≤ t → G'.T t = G.T t := by
  have p1 : ∀ t, 4 ≤ t → (G.pt1 b v).T t = G.T t := fun t ht => sT2_ne _ _ _ _ (by omega)
  have p2 : ∀ t, 4 ≤ t → (G.pt2 b v).T t = G.T t := fun t ht => by
    show (((G.pt1 b v).sI 2 (G.I 2 + 1)).sT 3 _).T t = _
    rw [sT2_ne _ _ _ _ (by omega)]
    exact p1 t ht
  have i2 : ∀ k, k ≠ 2 → (G.pt2 b v).I k = G.I k := fun k hk => va_up_ne _ _ hk
  rcases h with ⟨_, rfl⟩ | ⟨_, ⟨_, rfl⟩ | ⟨_, r, hf⟩⟩
  · exact ⟨fun _ _ => rfl, p1⟩
  · exact ⟨i2, p2⟩
  · have a := flR_same hf
    exact ⟨fun k hk => by rw [a.1]; exact i2 k hk, fun t ht => by rw [a.2 t (by omega) (by omega)]; exact p2 t ht⟩
theorem ptN_same {G : G2} {f : Nat} {v : Int32} : ∀ {k : Nat} {G' : G2}, G.ptN f v k G' → (∀ k, k ≠ 2 → G'.I k = G.I k) ∧ ∀ t, 4 ≤ t → G'.T t = G.T t
  | 0, _, h => by subst h; exact ⟨fun _ _ => rfl, fun _ _ => rfl⟩
  | k + 1, _, ⟨G'', h1, h2⟩ => by
    have a := ptN_same h1
    have b := ptR_same h2
    exact ⟨fun j hj => (b.1 j hj).trans (a.1 j hj), fun t ht => (b.2 t ht).trans (a.2 t ht)⟩
/-- the target's work in the reference -/
def G2.wkR (G : G2) (q sz f c : Nat) (nx : Int32) (G' : G2) : Prop :=
  (G.T 4 q = 0 ∧ ((¬ nx < G.T 6 q ∧ ∃ G'', G.ptN f (G.T 7 q) c G'' ∧ G' = G''.fin sz (nI q)) ∨ (nx < G.T 6 q ∧ G' = G.pst 1 sz (nI q) 2 nx 0 (G.I 6 + G.I 0)))) ∨
  (¬ G.T 4 q = 0 ∧ ((G.T 4 q = 1 ∧ G' = (G.rdN (nI q) f sz c).fin (sz + c) (nI q)) ∨ (¬ G.T 4 q = 1 ∧ ∃ G'', G.flN 16 G'' ∧ G' = G''.fin sz (nI q))))
def G2.cr (G : G2) (ca : Int32) : G2 := if ca ≤ G.I 7 then G else G.sI 7 ca
def G2.tk4 (G : G2) (q : Nat) (kd : Int32) : G2 := if kd = 4 then G.sT 8 (upd (G.T 8) q 2) else G
def G2.end_ (G : G2) (n : Nat) : G2 := ((((G.sI 4 0).sT 16 (upd (G.T 16) 0 0)).sT 16 (upd (upd (G.T 16) 0 0) 1 0)).sT 8 (rop (G.T 8) n))
def shb (f : Nat → Int32) (b m : Nat) : Nat → Int32 := fun j => if b ≤ j ∧ j < b + m then f (j + 1) else f j
theorem shb_0 (f : Nat → Int32) (b : Nat) : shb f b 0 = f := by
  funext j
  simp only [shb]
  rw [if_neg (by omega)]
theorem shb_at (f : Nat → Int32) (b i : Nat) : shb f b i (b + i + 1) = f (b + i + 1) := by
  simp only [shb]
  rw [if_neg (by omega)]
theorem shb_s (f : Nat → Int32) (b i : Nat) : upd (shb f b i) (b + i) (f (b + i + 1)) = shb f b (i + 1) := by
  funext j
  by_cases h : j = b + i
  · subst h
    rw [pk_us]
    simp only [shb]
    rw [if_pos ⟨by omega, by omega⟩]
  · rw [pk_un h]
    simp only [shb]
    by_cases h2 : b ≤ j ∧ j < b + i
    · rw [if_pos h2, if_pos ⟨h2.1, by omega⟩]
    · rw [if_neg h2, if_neg (by omega)]
/-- the line's messages move up -/
def G2.shf6 (G : G2) (b m : Nat) : G2 := (((((G.sT 10 (shb (G.T 10) b m)).sT 11 (shb (G.T 11) b m)).sT 12 (shb (G.T 12) b m)).sT 13 (shb (G.T 13) b m)).sT 14 (shb (G.T 14) b m)).sT 15 (shb (G.T 15) b m)
end
section
set_option maxHeartbeats 4000000 in
set_option maxRecDepth 100000 in
theorem ct_Md_number {D : va_G} {l : Launch} {cI cZ cR cM : ClassId} {M : Mem} {ad : Nat → Nat} {G : G2} (h : R2 cI cZ M ad G) (n : Nat) (hn : G.I 3 = nI n) (hn120 : n ≤ 120) (b : Int32) : Ct TT D cls (tyL cI cZ cR cM) l y_Md_number b_Md_number 4 (some .int) 0 0 0 0 [.ref (ad 0), .int b] M (fun rv M' => M' = M ∧ rv = some (.int (nI (cnt (G.T 8) b n)))) := by
  refine ct_of "BlockTargetSessionModel" rfl (by decide) (Nat.le_of_ble_eq_true rfl) ?_
  intro Z hl hD hnm hQ C
  subst hl
  subst hD
  show V cls 4 (rmOf 0 0 0 0) Z 0 [(0, .ref (ad 0)), (1, .int b)] [] M 0 0
  refine v_iconst C (v := 0) d_Md_number_0 (by decide) ?_
  refine v_istore_n C (i := 2) (lv' := [(2, .int 0), (0, .ref (ad 0)), (1, .int b)]) d_Md_number_1 rfl (by decide) rfl ?_
  refine v_iconst C (v := 0) d_Md_number_2 (by decide) ?_
  refine v_istore_n C (i := 3) (lv' := [(3, .int 0), (2, .int 0), (0, .ref (ad 0)), (1, .int b)]) d_Md_number_3 rfl (by decide) rfl ?_
  have L : ∀ (fu i : Nat), n - i < fu → i ≤ n → V cls 4 (rmOf 0 0 0 0) Z 4 [(3, .int (nI i)), (2, .int (nI (cnt (G.T 8) b i))), (0, .ref (ad 0)), (1, .int b)] [] M 0 0 := by
    intro fu
    induction fu with
    | zero => intro i hf; omega
    | succ fu ih =>
      intro i hf hi
      refine v_iload_n C (i := 3) d_Md_number_4 rfl rfl ?_
      refine v_aload_n C (i := 0) d_Md_number_5 rfl rfl ?_
      refine v_get C (v := .int (G.I 3)) in_Md h.o cl_Md 12 (by decide) w_383 rfl rfl d_Md_number_6 ?_
      refine V.eqst (st' := [.int (nI n), .int (nI i)]) (by rw [hn]) ?_
      refine v_icmp_ge C 31 d_Md_number_9 (by decide) (fun c_9 => ?_) (fun c_9 => ?_)
      · have hi2 : i = n := Nat.le_antisymm hi ((nI_leI (by omega) (by omega)).mp c_9)
        refine v_iload_n C (i := 2) d_Md_number_31 rfl rfl ?_
        exact v_iret hQ C rfl d_Md_number_32 (by omega) (by omega) ⟨rfl, by rw [hi2]⟩
      · have hi2 : i < n := Nat.lt_of_not_le (fun h => c_9 ((nI_leI (by omega) (by omega)).mpr h))
        refine v_aload_n C (i := 0) d_Md_number_12 rfl rfl ?_
        refine v_get C (v := .ref (ad 8)) in_Md h.o cl_Md 10 (by decide) w_381 rfl rfl d_Md_number_13 ?_
        refine v_iload_n C (i := 3) d_Md_number_16 rfl rfl ?_
        refine v_iald C (N := 120) (f := G.T 8) 0 (h.a 8 (by decide) (by decide)) rfl (pk_in i 120 (by omega)) d_Md_number_17 ?_
        refine V.eqst (st' := [.int (G.T 8 i)]) (by rw [show Int32.toNatClampNeg (nI i) = i from pk_cl _ (hx := rfl)]) ?_
        refine v_iload_n C (i := 1) d_Md_number_18 rfl rfl ?_
        refine v_icmp_ne C 25 d_Md_number_19 (by decide) (fun c_19 => ?_) (fun c_19 => ?_)
        · refine v_iinc C (i := 3) (j := 0) (v := nI (i + 1)) (lv' := [(3, .int (nI (i + 1))), (2, .int (nI (cnt (G.T 8) b i))), (0, .ref (ad 0)), (1, .int b)]) d_Md_number_25 rfl (nI_1 i) (by decide) rfl ?_
          refine v_goto C 4 d_Md_number_28 (by decide) ?_
          refine V.pick (lv' := [(3, .int (nI (i + 1))), (2, .int (nI (cnt (G.T 8) b i))), (0, .ref (ad 0)), (1, .int b)]) [0, 1, 2, 3] rfl ?_
          have e : cnt (G.T 8) b (i + 1) = (cnt (G.T 8) b i) := by rw [cnt, if_neg c_19, Nat.add_zero]
          have k9 := ih (i + 1) (by omega) (by omega)
          rw [e] at k9
          exact k9
        · refine v_iinc C (i := 2) (j := 1) (v := nI (cnt (G.T 8) b i + 1)) (lv' := [(2, .int (nI (cnt (G.T 8) b i + 1))), (3, .int (nI i)), (0, .ref (ad 0)), (1, .int b)]) d_Md_number_22 rfl (nI_1 _) (by decide) rfl ?_
          refine v_iinc C (i := 3) (j := 1) (v := nI (i + 1)) (lv' := [(3, .int (nI (i + 1))), (2, .int (nI (cnt (G.T 8) b i + 1))), (0, .ref (ad 0)), (1, .int b)]) d_Md_number_25 rfl (nI_1 i) (by decide) rfl ?_
          refine v_goto C 4 d_Md_number_28 (by decide) ?_
          refine V.pick (lv' := [(3, .int (nI (i + 1))), (2, .int (nI (cnt (G.T 8) b i + 1))), (0, .ref (ad 0)), (1, .int b)]) [0, 1, 2, 3] rfl ?_
          have e : cnt (G.T 8) b (i + 1) = (cnt (G.T 8) b i + 1) := by rw [cnt, if_pos c_19]
          have k9 := ih (i + 1) (by omega) (by omega)
          rw [e] at k9
          exact k9
  refine V.pick (lv' := [(3, .int (nI 0)), (2, .int (nI (cnt (G.T 8) b 0))), (0, .ref (ad 0)), (1, .int b)]) [0, 1, 2, 3] (by rw [cnt, nI_0]; rfl) ?_
  exact L (n + 1) 0 (by omega) (by omega)
set_option maxHeartbeats 4000000 in
set_option maxRecDepth 100000 in
theorem ct_Md_size {D : va_G} {l : Launch} {cI cZ cR cM : ClassId} {M : Mem} {ad : Nat → Nat} {G : G2} (h : R2 cI cZ M ad G)  : Ct TT D cls (tyL cI cZ cR cM) l y_Md_size b_Md_size 3 (some .int) 0 0 0 0 [.ref (ad 0)] M (fun rv M' => M' = M ∧ rv = some (.int (nI (cpos (G.T 3) 16)))) := by
  refine ct_of "BlockTargetSessionModel" rfl (by decide) (Nat.le_of_ble_eq_true rfl) ?_
  intro Z hl hD hnm hQ C
  subst hl
  subst hD
  show V cls 3 (rmOf 0 0 0 0) Z 0 [(0, .ref (ad 0))] [] M 0 0
  refine v_iconst C (v := 0) d_Md_size_0 (by decide) ?_
  refine v_istore_n C (i := 1) (lv' := [(1, .int 0), (0, .ref (ad 0))]) d_Md_size_1 rfl (by decide) rfl ?_
  refine v_iconst C (v := 0) d_Md_size_2 (by decide) ?_
  refine v_istore_n C (i := 2) (lv' := [(2, .int 0), (1, .int 0), (0, .ref (ad 0))]) d_Md_size_3 rfl (by decide) rfl ?_
  have L : ∀ (fu i : Nat), 16 - i < fu → i ≤ 16 → V cls 3 (rmOf 0 0 0 0) Z 4 [(2, .int (nI i)), (1, .int (nI (cpos (G.T 3) i))), (0, .ref (ad 0))] [] M 0 0 := by
    intro fu
    induction fu with
    | zero => intro i hf; omega
    | succ fu ih =>
      intro i hf hi
      refine v_iload_n C (i := 2) d_Md_size_4 rfl rfl ?_
      refine v_bipush C (v := 16) d_Md_size_5 (by decide) ?_
      refine v_icmp_ge C 28 d_Md_size_7 (by decide) (fun c_7 => ?_) (fun c_7 => ?_)
      · have hi2 : i = 16 := Nat.le_antisymm hi ((nI_leI (a := 16) (by omega) (by omega)).mp c_7)
        refine v_iload_n C (i := 1) d_Md_size_28 rfl rfl ?_
        exact v_iret hQ C rfl d_Md_size_29 (by omega) (by omega) ⟨rfl, by rw [hi2]⟩
      · have hi2 : i < 16 := Nat.lt_of_not_le (fun h => c_7 ((nI_leI (a := 16) (by omega) (by omega)).mpr h))
        refine v_aload_n C (i := 0) d_Md_size_10 rfl rfl ?_
        refine v_get C (v := .ref (ad 3)) in_Md h.o cl_Md 4 (by decide) w_375 rfl rfl d_Md_size_11 ?_
        refine v_iload_n C (i := 2) d_Md_size_14 rfl rfl ?_
        refine v_iald C (N := 16) (f := G.T 3) 0 (h.a 3 (by decide) (by decide)) rfl (pk_in i 16 (by omega)) d_Md_size_15 ?_
        refine V.eqst (st' := [.int (G.T 3 i)]) (by rw [show Int32.toNatClampNeg (nI i) = i from pk_cl _ (hx := rfl)]) ?_
        refine v_if_le C 22 d_Md_size_16 (by decide) (fun c_16 => ?_) (fun c_16 => ?_)
        · refine v_iinc C (i := 2) (j := 0) (v := nI (i + 1)) (lv' := [(2, .int (nI (i + 1))), (1, .int (nI (cpos (G.T 3) i))), (0, .ref (ad 0))]) d_Md_size_22 rfl (nI_1 i) (by decide) rfl ?_
          refine v_goto C 4 d_Md_size_25 (by decide) ?_
          refine V.pick (lv' := [(2, .int (nI (i + 1))), (1, .int (nI (cpos (G.T 3) i))), (0, .ref (ad 0))]) [0, 1, 2] rfl ?_
          have e : cpos (G.T 3) (i + 1) = (cpos (G.T 3) i) := by rw [cpos, if_neg (Int32.not_lt.mpr c_16), Nat.add_zero]
          have k9 := ih (i + 1) (by omega) (by omega)
          rw [e] at k9
          exact k9
        · refine v_iinc C (i := 1) (j := 1) (v := nI (cpos (G.T 3) i + 1)) (lv' := [(1, .int (nI (cpos (G.T 3) i + 1))), (2, .int (nI i)), (0, .ref (ad 0))]) d_Md_size_19 rfl (nI_1 _) (by decide) rfl ?_
          refine v_iinc C (i := 2) (j := 1) (v := nI (i + 1)) (lv' := [(2, .int (nI (i + 1))), (1, .int (nI (cpos (G.T 3) i + 1))), (0, .ref (ad 0))]) d_Md_size_22 rfl (nI_1 i) (by decide) rfl ?_
          refine v_goto C 4 d_Md_size_25 (by decide) ?_
          refine V.pick (lv' := [(2, .int (nI (i + 1))), (1, .int (nI (cpos (G.T 3) i + 1))), (0, .ref (ad 0))]) [0, 1, 2] rfl ?_
          have e : cpos (G.T 3) (i + 1) = (cpos (G.T 3) i + 1) := by rw [cpos, if_pos (Int32.not_le.mp c_16)]
          have k9 := ih (i + 1) (by omega) (by omega)
          rw [e] at k9
          exact k9
  refine V.pick (lv' := [(2, .int (nI 0)), (1, .int (nI (cpos (G.T 3) 0))), (0, .ref (ad 0))]) [0, 1, 2] (by rw [cpos, nI_0]; rfl) ?_
  exact L 17 0 (by omega) (by omega)
set_option maxHeartbeats 4000000 in
set_option maxRecDepth 100000 in
theorem ct_Md_blockAt {D : va_G} {l : Launch} {cI cZ cR cM : ClassId} {M : Mem} {ad : Nat → Nat} {G : G2} (h : R2 cI cZ M ad G) (p : Int32) : Ct TT D cls (tyL cI cZ cR cM) l y_Md_blockAt b_Md_blockAt 5 (some .int) 0 0 0 0 [.ref (ad 0), .int p] M (fun rv M' => M' = M ∧ ∃ x : Int32, rv = some (.int x) ∧ bAt (G.T 3) p x) := by
  refine ct_of "BlockTargetSessionModel" rfl (by decide) (Nat.le_of_ble_eq_true rfl) ?_
  intro Z hl hD hnm hQ C
  subst hl
  subst hD
  show V cls 5 (rmOf 0 0 0 0) Z 0 [(0, .ref (ad 0)), (1, .int p)] [] M 0 0
  refine v_iconst C (v := 0) d_Md_blockAt_0 (by decide) ?_
  refine v_istore_n C (i := 2) (lv' := [(2, .int 0), (0, .ref (ad 0)), (1, .int p)]) d_Md_blockAt_1 rfl (by decide) rfl ?_
  have L : ∀ (fu i : Nat), 16 - i < fu → i ≤ 16 → (∀ b, b < i → ¬ isAt (G.T 3) p b) → V cls 5 (rmOf 0 0 0 0) Z 2 [(2, .int (nI i)), (0, .ref (ad 0)), (1, .int p)] [] M 0 0 := by
    intro fu
    induction fu with
    | zero => intro i hf; omega
    | succ fu ih =>
      intro i hf hi hno
      refine v_iload_n C (i := 2) d_Md_blockAt_2 rfl rfl ?_
      refine v_bipush C (v := 16) d_Md_blockAt_3 (by decide) ?_
      refine v_icmp_ge C 77 d_Md_blockAt_5 (by decide) (fun c_5 => ?_) (fun c_5 => ?_)
      · have hi2 : i = 16 := Nat.le_antisymm hi ((nI_leI (a := 16) (by omega) (by omega)).mp c_5)
        refine v_bipush C (v := (-3)) d_Md_blockAt_77 (by decide) ?_
        exact v_iret hQ C rfl d_Md_blockAt_79 (by omega) (by omega) ⟨rfl, _, rfl, Or.inr ⟨fun b hb => hno b (by omega), rfl⟩⟩
      · have hi2 : i < 16 := Nat.lt_of_not_le (fun h => c_5 ((nI_leI (a := 16) (by omega) (by omega)).mpr h))
        refine v_iconst C (v := 0) d_Md_blockAt_8 (by decide) ?_
        refine v_istore_n C (i := 3) (lv' := [(3, .int 0), (2, .int (nI i)), (0, .ref (ad 0)), (1, .int p)]) d_Md_blockAt_9 rfl (by decide) rfl ?_
        refine v_iconst C (v := 0) d_Md_blockAt_10 (by decide) ?_
        refine v_istore C (i := 4) (lv' := [(4, .int 0), (3, .int 0), (2, .int (nI i)), (0, .ref (ad 0)), (1, .int p)]) d_Md_blockAt_11 (by decide) rfl ?_
        have L2 : ∀ (fv j : Nat), 16 - j < fv → j ≤ 16 → V cls 5 (rmOf 0 0 0 0) Z 13 [(4, .int (nI j)), (3, .int (nI (bef (G.T 3) (G.T 3 i) j))), (2, .int (nI i)), (0, .ref (ad 0)), (1, .int p)] [] M 0 0 := by
          intro fv
          induction fv with
          | zero => intro j hg; omega
          | succ fv ih2 =>
            intro j hg hj
            refine v_iload C (i := 4) d_Md_blockAt_13 rfl ?_
            refine v_bipush C (v := 16) d_Md_blockAt_15 (by decide) ?_
            refine v_icmp_ge C 55 d_Md_blockAt_17 (by decide) (fun c_17 => ?_) (fun c_17 => ?_)
            · have hj2 : j = 16 := Nat.le_antisymm hj ((nI_leI (a := 16) (by omega) (by omega)).mp c_17)
              subst hj2
              refine v_aload_n C (i := 0) d_Md_blockAt_55 rfl rfl ?_
              refine v_get C (v := .ref (ad 3)) in_Md h.o cl_Md 4 (by decide) w_375 rfl rfl d_Md_blockAt_56 ?_
              refine v_iload_n C (i := 2) d_Md_blockAt_59 rfl rfl ?_
              refine v_iald C (N := 16) (f := G.T 3) 0 (h.a 3 (by decide) (by decide)) rfl (pk_in i 16 (by omega)) d_Md_blockAt_60 ?_
              refine V.eqst (st' := [.int (G.T 3 i)]) (by rw [show Int32.toNatClampNeg (nI i) = i from pk_cl _ (hx := rfl)]) ?_
              refine v_if_le C 71 d_Md_blockAt_61 (by decide) (fun c_61 => ?_) (fun c_61 => ?_)
              · refine v_iinc C (i := 2) (j := 2) (v := nI (i + 1)) (lv' := [(2, .int (nI (i + 1))), (4, .int (nI 16)), (3, .int (nI (bef (G.T 3) (G.T 3 i) 16))), (0, .ref (ad 0)), (1, .int p)]) d_Md_blockAt_71 rfl (nI_1 i) (by decide) rfl ?_
                refine v_goto C 2 d_Md_blockAt_74 (by decide) ?_
                refine V.pick (lv' := [(2, .int (nI (i + 1))), (0, .ref (ad 0)), (1, .int p)]) [0, 3, 4] rfl ?_
                exact ih (i + 1) (by omega) (by omega) (fun b hb => by
                  by_cases c : b = i
                  · subst c; exact fun z => absurd z.1 (Int32.not_lt.mpr c_61)
                  · exact hno b (by omega))
              · refine v_iload_n C (i := 3) d_Md_blockAt_64 rfl rfl ?_
                refine v_iload_n C (i := 1) d_Md_blockAt_65 rfl rfl ?_
                refine v_icmp_ne C 71 d_Md_blockAt_66 (by decide) (fun c_66 => ?_) (fun c_66 => ?_)
                · refine v_iinc C (i := 2) (j := 2) (v := nI (i + 1)) (lv' := [(2, .int (nI (i + 1))), (4, .int (nI 16)), (3, .int (nI (bef (G.T 3) (G.T 3 i) 16))), (0, .ref (ad 0)), (1, .int p)]) d_Md_blockAt_71 rfl (nI_1 i) (by decide) rfl ?_
                  refine v_goto C 2 d_Md_blockAt_74 (by decide) ?_
                  refine V.pick (lv' := [(2, .int (nI (i + 1))), (0, .ref (ad 0)), (1, .int p)]) [0, 3, 4] rfl ?_
                  exact ih (i + 1) (by omega) (by omega) (fun b hb => by
                    by_cases c : b = i
                    · subst c; exact fun z => c_66 z.2
                    · exact hno b (by omega))
                · refine v_iload_n C (i := 2) d_Md_blockAt_69 rfl rfl ?_
                  exact v_iret hQ C rfl d_Md_blockAt_70 (by omega) (by omega) ⟨rfl, _, rfl, Or.inl ⟨i, hi2, ⟨Int32.not_le.mp c_61, c_66⟩, rfl⟩⟩
            · have hj2 : j < 16 := Nat.lt_of_not_le (fun h => c_17 ((nI_leI (a := 16) (by omega) (by omega)).mpr h))
              refine v_aload_n C (i := 0) d_Md_blockAt_20 rfl rfl ?_
              refine v_get C (v := .ref (ad 3)) in_Md h.o cl_Md 4 (by decide) w_375 rfl rfl d_Md_blockAt_21 ?_
              refine v_iload C (i := 4) d_Md_blockAt_24 rfl ?_
              refine v_iald C (N := 16) (f := G.T 3) 0 (h.a 3 (by decide) (by decide)) rfl (pk_in j 16 (by omega)) d_Md_blockAt_26 ?_
              refine V.eqst (st' := [.int (G.T 3 j)]) (by rw [show Int32.toNatClampNeg (nI j) = j from pk_cl _ (hx := rfl)]) ?_
              refine v_if_le C 49 d_Md_blockAt_27 (by decide) (fun c_27 => ?_) (fun c_27 => ?_)
              · refine v_iinc C (i := 4) (j := 0) (v := nI (j + 1)) (lv' := [(4, .int (nI (j + 1))), (3, .int (nI (bef (G.T 3) (G.T 3 i) j))), (2, .int (nI i)), (0, .ref (ad 0)), (1, .int p)]) d_Md_blockAt_49 rfl (nI_1 j) (by decide) rfl ?_
                refine v_goto C 13 d_Md_blockAt_52 (by decide) ?_
                refine V.pick (lv' := [(4, .int (nI (j + 1))), (3, .int (nI (bef (G.T 3) (G.T 3 i) j))), (2, .int (nI i)), (0, .ref (ad 0)), (1, .int p)]) [0, 1, 2, 3, 4] rfl ?_
                have e : bef (G.T 3) (G.T 3 i) (j + 1) = (bef (G.T 3) (G.T 3 i) j) := by rw [bef, if_neg (fun z => absurd z.1 (Int32.not_lt.mpr c_27)), Nat.add_zero]
                have k9 := ih2 (j + 1) (by omega) (by omega)
                rw [e] at k9
                exact k9
              · refine v_aload_n C (i := 0) d_Md_blockAt_30 rfl rfl ?_
                refine v_get C (v := .ref (ad 3)) in_Md h.o cl_Md 4 (by decide) w_375 rfl rfl d_Md_blockAt_31 ?_
                refine v_iload C (i := 4) d_Md_blockAt_34 rfl ?_
                refine v_iald C (N := 16) (f := G.T 3) 0 (h.a 3 (by decide) (by decide)) rfl (pk_in j 16 (by omega)) d_Md_blockAt_36 ?_
                refine V.eqst (st' := [.int (G.T 3 j)]) (by rw [show Int32.toNatClampNeg (nI j) = j from pk_cl _ (hx := rfl)]) ?_
                refine v_aload_n C (i := 0) d_Md_blockAt_37 rfl rfl ?_
                refine v_get C (v := .ref (ad 3)) in_Md h.o cl_Md 4 (by decide) w_375 rfl rfl d_Md_blockAt_38 ?_
                refine v_iload_n C (i := 2) d_Md_blockAt_41 rfl rfl ?_
                refine v_iald C (N := 16) (f := G.T 3) 0 (h.a 3 (by decide) (by decide)) rfl (pk_in i 16 (by omega)) d_Md_blockAt_42 ?_
                refine V.eqst (st' := [.int (G.T 3 i), .int (G.T 3 j)]) (by rw [show Int32.toNatClampNeg (nI i) = i from pk_cl _ (hx := rfl)]) ?_
                refine v_icmp_ge C 49 d_Md_blockAt_43 (by decide) (fun c_43 => ?_) (fun c_43 => ?_)
                · refine v_iinc C (i := 4) (j := 0) (v := nI (j + 1)) (lv' := [(4, .int (nI (j + 1))), (3, .int (nI (bef (G.T 3) (G.T 3 i) j))), (2, .int (nI i)), (0, .ref (ad 0)), (1, .int p)]) d_Md_blockAt_49 rfl (nI_1 j) (by decide) rfl ?_
                  refine v_goto C 13 d_Md_blockAt_52 (by decide) ?_
                  refine V.pick (lv' := [(4, .int (nI (j + 1))), (3, .int (nI (bef (G.T 3) (G.T 3 i) j))), (2, .int (nI i)), (0, .ref (ad 0)), (1, .int p)]) [0, 1, 2, 3, 4] rfl ?_
                  have e : bef (G.T 3) (G.T 3 i) (j + 1) = (bef (G.T 3) (G.T 3 i) j) := by rw [bef, if_neg (fun z => absurd z.2 (Int32.not_lt.mpr c_43)), Nat.add_zero]
                  have k9 := ih2 (j + 1) (by omega) (by omega)
                  rw [e] at k9
                  exact k9
                · refine v_iinc C (i := 3) (j := 1) (v := nI (bef (G.T 3) (G.T 3 i) j + 1)) (lv' := [(3, .int (nI (bef (G.T 3) (G.T 3 i) j + 1))), (4, .int (nI j)), (2, .int (nI i)), (0, .ref (ad 0)), (1, .int p)]) d_Md_blockAt_46 rfl (nI_1 _) (by decide) rfl ?_
                  refine v_iinc C (i := 4) (j := 1) (v := nI (j + 1)) (lv' := [(4, .int (nI (j + 1))), (3, .int (nI (bef (G.T 3) (G.T 3 i) j + 1))), (2, .int (nI i)), (0, .ref (ad 0)), (1, .int p)]) d_Md_blockAt_49 rfl (nI_1 j) (by decide) rfl ?_
                  refine v_goto C 13 d_Md_blockAt_52 (by decide) ?_
                  refine V.pick (lv' := [(4, .int (nI (j + 1))), (3, .int (nI (bef (G.T 3) (G.T 3 i) j + 1))), (2, .int (nI i)), (0, .ref (ad 0)), (1, .int p)]) [0, 1, 2, 3, 4] rfl ?_
                  have e : bef (G.T 3) (G.T 3 i) (j + 1) = (bef (G.T 3) (G.T 3 i) j + 1) := by rw [bef, if_pos ⟨Int32.not_le.mp c_27, Int32.not_le.mp c_43⟩]
                  have k9 := ih2 (j + 1) (by omega) (by omega)
                  rw [e] at k9
                  exact k9
        refine V.pick (lv' := [(4, .int (nI 0)), (3, .int (nI (bef (G.T 3) (G.T 3 i) 0))), (2, .int (nI i)), (0, .ref (ad 0)), (1, .int p)]) [0, 1, 2, 3, 4] (by rw [bef, nI_0]; rfl) ?_
        exact L2 17 0 (by omega) (by omega)
  refine V.pick (lv' := [(2, .int (nI 0)), (0, .ref (ad 0)), (1, .int p)]) [0, 1, 2] (by rw [nI_0]; rfl) ?_
  exact L 17 0 (by omega) (by omega) (fun b hb => absurd hb (Nat.not_lt_zero b))
set_option maxHeartbeats 4000000 in
set_option maxRecDepth 100000 in
theorem ct_Md_flush {D : va_G} {l : Launch} {cI cZ cR cM : ClassId} {M : Mem} {ad : Nat → Nat} {G : G2} (h : R2 cI cZ M ad G)  : Ct TT D cls (tyL cI cZ cR cM) l y_Md_flush b_Md_flush 2 (some .int) 1 24 0 0 [.ref (ad 0)] M (fun rv M' => ∃ x : Int32, rv = some (.int x) ∧ ∃ G', G.flR x G' ∧ R2 cI cZ M' ad G') := by
  refine ct_of "BlockTargetSessionModel" rfl (by decide) (Nat.le_of_ble_eq_true rfl) ?_
  intro Z hl hD hnm hQ C
  subst hl
  subst hD
  show V cls 2 (rmOf 1 24 0 0) Z 0 [(0, .ref (ad 0))] [] M 0 0
  refine v_aload_n C (i := 0) d_Md_flush_0 rfl rfl ?_
  refine v_iconst C (v := 0) d_Md_flush_1 (by decide) ?_
  refine v_callV C (As := [.int 0]) (rest := []) h.o cl_Md rfl w_474 wp_18 (ct_Md_blockAt h 0) (Nat.le_of_ble_eq_true rfl) (Nat.le_of_ble_eq_true rfl) w_475 w_6 hy_Md_blockAt w_472 rfl (Nat.le_of_ble_eq_true rfl) ⟨by decide, by decide⟩ d_Md_flush_2 (fun rv M hp => ?_)
  obtain ⟨rfl, x, rfl, hb⟩ := hp
  rcases hb with ⟨b, hb16, hat, rfl⟩ | ⟨hno, rfl⟩
  · refine V.eqst (st' := [.int (nI b)]) rfl (V.cs (k' := 0) (n' := 0) rfl rfl ?_)
    refine v_istore_n C (i := 1) (lv' := [(1, .int (nI b)), (0, .ref (ad 0))]) d_Md_flush_5 rfl (by decide) rfl ?_
    refine v_iload_n C (i := 1) d_Md_flush_6 rfl rfl ?_
    refine v_if_ge C 13 d_Md_flush_7 (by decide) (fun c_7 => ?_) (fun c_7 => absurd (nI_pos' (by omega)) c_7)
    refine v_aload_n C (i := 0) d_Md_flush_13 rfl rfl ?_
    refine v_get C (v := .ref (ad 1)) in_Md h.o cl_Md 2 (by decide) w_373 rfl rfl d_Md_flush_14 ?_
    refine v_iload_n C (i := 1) d_Md_flush_17 rfl rfl ?_
    refine v_aload_n C (i := 0) d_Md_flush_18 rfl rfl ?_
    refine v_get C (v := .ref (ad 2)) in_Md h.o cl_Md 3 (by decide) w_374 rfl rfl d_Md_flush_19 ?_
    refine v_iload_n C (i := 1) d_Md_flush_22 rfl rfl ?_
    refine v_iald C (N := 16) (f := G.T 2) 0 (h.a 2 (by decide) (by decide)) rfl (pk_in b 16 hb16) d_Md_flush_23 ?_
    refine V.eqst (st' := [.int (G.T 2 b), .int (nI b), .ref (ad 1)]) (by rw [show Int32.toNatClampNeg (nI b) = b from pk_cl _ (hx := rfl)]) ?_
    refine v_iast C (N := 16) (f := G.T 1) 0 (h.a 1 (by decide) (by decide)) rfl (pk_in b 16 hb16) d_Md_flush_24 ?_
    rw [show Int32.toNatClampNeg (nI b) = b from pk_cl _ (hx := rfl)]
    have h : R2 cI cZ (mset M (ad 1) (aI cI 16 (upd (G.T 1) b (G.T 2 b)))) ad (G.sT 1 (upd (G.T 1) b (G.T 2 b))) := h.pa 1 (by decide) (by decide) (upd (G.T 1) b (G.T 2 b))
    revert h
    generalize mset M (ad 1) (aI cI 16 (upd (G.T 1) b (G.T 2 b))) = M
    intro h
    refine v_aload_n C (i := 0) d_Md_flush_25 rfl rfl ?_
    refine v_get C (v := .ref (ad 3)) in_Md h.o cl_Md 4 (by decide) w_375 rfl rfl d_Md_flush_26 ?_
    refine v_iload_n C (i := 1) d_Md_flush_29 rfl rfl ?_
    refine v_iconst C (v := 0) d_Md_flush_30 (by decide) ?_
    refine v_iast C (N := 16) (f := G.T 3) 0 (h.a 3 (by decide) (by decide)) rfl (pk_in b 16 hb16) d_Md_flush_31 ?_
    rw [show Int32.toNatClampNeg (nI b) = b from pk_cl _ (hx := rfl)]
    have h : R2 cI cZ (mset M (ad 3) (aI cI 16 (upd (G.T 3) b 0))) ad ((G.sT 1 (upd (G.T 1) b (G.T 2 b))).sT 3 (upd (G.T 3) b 0)) := h.pa 3 (by decide) (by decide) (upd (G.T 3) b 0)
    revert h
    generalize mset M (ad 3) (aI cI 16 (upd (G.T 3) b 0)) = M
    intro h
    refine v_iload_n C (i := 1) d_Md_flush_32 rfl rfl ?_
    exact v_iret hQ C rfl d_Md_flush_33 (by omega) (by omega) ⟨nI b, rfl, _, Or.inl ⟨b, hb16, hat, rfl, rfl⟩, h⟩
  · refine V.eqst (st' := [.int (-3)]) rfl (V.cs (k' := 0) (n' := 0) rfl rfl ?_)
    refine v_istore_n C (i := 1) (lv' := [(1, .int (-3)), (0, .ref (ad 0))]) d_Md_flush_5 rfl (by decide) rfl ?_
    refine v_iload_n C (i := 1) d_Md_flush_6 rfl rfl ?_
    refine v_if_ge C 13 d_Md_flush_7 (by decide) (fun c_7 => absurd c_7 (by decide)) (fun c_7 => ?_)
    refine v_bipush C (v := (-3)) d_Md_flush_10 (by decide) ?_
    exact v_iret hQ C rfl d_Md_flush_12 (by omega) (by omega) ⟨-3, rfl, G, Or.inr ⟨hno, rfl, rfl⟩, h⟩
set_option maxHeartbeats 4000000 in
set_option maxRecDepth 100000 in
theorem ct_Md_put {D : va_G} {l : Launch} {cI cZ cR cM : ClassId} {M : Mem} {ad : Nat → Nat} {G : G2} (h : R2 cI cZ M ad G) (b : Nat) (hb : b < 16) (v : Int32) : Ct TT D cls (tyL cI cZ cR cM) l y_Md_put b_Md_put 4 none 2 45 0 0 [.ref (ad 0), .int (nI b), .int v] M (fun rv M' => rv = none ∧ ∃ G', G.ptR b v G' ∧ R2 cI cZ M' ad G') := by
  refine ct_of "BlockTargetSessionModel" rfl (by decide) (Nat.le_of_ble_eq_true rfl) ?_
  intro Z hl hD hnm hQ C
  subst hl
  subst hD
  show V cls 4 (rmOf 2 45 0 0) Z 0 [(0, .ref (ad 0)), (1, .int (nI b)), (2, .int v)] [] M 0 0
  refine v_aload_n C (i := 0) d_Md_put_0 rfl rfl ?_
  refine v_get C (v := .ref (ad 2)) in_Md h.o cl_Md 3 (by decide) w_374 rfl rfl d_Md_put_1 ?_
  refine v_iload_n C (i := 1) d_Md_put_4 rfl rfl ?_
  refine v_iload_n C (i := 2) d_Md_put_5 rfl rfl ?_
  refine v_iast C (N := 16) (f := G.T 2) 0 (h.a 2 (by decide) (by decide)) rfl (pk_in b 16 hb) d_Md_put_6 ?_
  rw [show Int32.toNatClampNeg (nI b) = b from pk_cl _ (hx := rfl)]
  have h : R2 cI cZ (mset M (ad 2) (aI cI 16 (upd (G.T 2) b v))) ad (G.sT 2 (upd (G.T 2) b v)) := h.pa 2 (by decide) (by decide) (upd (G.T 2) b v)
  revert h
  generalize mset M (ad 2) (aI cI 16 (upd (G.T 2) b v)) = M
  intro h
  refine v_aload_n C (i := 0) d_Md_put_7 rfl rfl ?_
  refine v_get C (v := .ref (ad 3)) in_Md h.o cl_Md 4 (by decide) w_375 rfl rfl d_Md_put_8 ?_
  refine v_iload_n C (i := 1) d_Md_put_11 rfl rfl ?_
  refine v_iald C (N := 16) (f := G.T 3) 0 (h.a 3 (by decide) (by decide)) rfl (pk_in b 16 hb) d_Md_put_12 ?_
  refine V.eqst (st' := [.int (G.T 3 b)]) (by rw [show Int32.toNatClampNeg (nI b) = b from pk_cl _ (hx := rfl)]) ?_
  refine v_if_le C 17 d_Md_put_13 (by decide) (fun c_13 => ?_) (fun c_13 => ?_)
  · refine v_aload_n C (i := 0) d_Md_put_17 rfl rfl ?_
    refine v_dup C d_Md_put_18 rfl ?_
    refine v_get C (v := .int (G.I 2)) in_Md h.o cl_Md 5 (by decide) w_376 rfl rfl d_Md_put_19 ?_
    refine v_iconst C (v := 1) d_Md_put_22 (by decide) ?_
    refine v_iadd C d_Md_put_23 ?_
    refine v_put C in_Md t_Md to_Md nm_Md h.o cl_Md 5 (by decide) (fs' := [.int (G.I 0), .int (G.I 1), .ref (ad 1), .ref (ad 2), .ref (ad 3), .int ((G.I 2) + 1), .ref (ad 4), .ref (ad 5), .ref (ad 6), .ref (ad 7), .ref (ad 8), .ref (ad 9), .int (G.I 3), .ref (ad 10), .ref (ad 11), .ref (ad 12), .ref (ad 13), .ref (ad 14), .ref (ad 15), .ref (ad 16), .int (G.I 4), .int (G.I 5), .int (G.I 6), .int (G.I 7), .int (G.I 8)]) w_376 rfl rfl rfl rfl (Nat.le_of_ble_eq_true rfl) rfl d_Md_put_24 ?_
    have h : R2 cI cZ (mset M (ad 0) (ob 5 [.int (G.I 0), .int (G.I 1), .ref (ad 1), .ref (ad 2), .ref (ad 3), .int ((G.I 2) + 1), .ref (ad 4), .ref (ad 5), .ref (ad 6), .ref (ad 7), .ref (ad 8), .ref (ad 9), .int (G.I 3), .ref (ad 10), .ref (ad 11), .ref (ad 12), .ref (ad 13), .ref (ad 14), .ref (ad 15), .ref (ad 16), .int (G.I 4), .int (G.I 5), .int (G.I 6), .int (G.I 7), .int (G.I 8)])) ad ((G.sT 2 (upd (G.T 2) b v)).sI 2 ((G.I 2) + 1)) := h.po 2 ((G.I 2) + 1)
    revert h
    generalize mset M (ad 0) (ob 5 [.int (G.I 0), .int (G.I 1), .ref (ad 1), .ref (ad 2), .ref (ad 3), .int ((G.I 2) + 1), .ref (ad 4), .ref (ad 5), .ref (ad 6), .ref (ad 7), .ref (ad 8), .ref (ad 9), .int (G.I 3), .ref (ad 10), .ref (ad 11), .ref (ad 12), .ref (ad 13), .ref (ad 14), .ref (ad 15), .ref (ad 16), .int (G.I 4), .int (G.I 5), .int (G.I 6), .int (G.I 7), .int (G.I 8)]) = M
    intro h
    refine v_aload_n C (i := 0) d_Md_put_27 rfl rfl ?_
    refine v_get C (v := .ref (ad 3)) in_Md h.o cl_Md 4 (by decide) w_375 rfl rfl d_Md_put_28 ?_
    refine v_iload_n C (i := 1) d_Md_put_31 rfl rfl ?_
    refine v_aload_n C (i := 0) d_Md_put_32 rfl rfl ?_
    refine v_get C (v := .int ((G.I 2) + 1)) in_Md h.o cl_Md 5 (by decide) w_376 rfl rfl d_Md_put_33 ?_
    refine v_iast C (N := 16) (f := G.T 3) 0 (h.a 3 (by decide) (by decide)) rfl (pk_in b 16 hb) d_Md_put_36 ?_
    rw [show Int32.toNatClampNeg (nI b) = b from pk_cl _ (hx := rfl)]
    have h : R2 cI cZ (mset M (ad 3) (aI cI 16 (upd (G.T 3) b ((G.I 2) + 1)))) ad (((G.sT 2 (upd (G.T 2) b v)).sI 2 ((G.I 2) + 1)).sT 3 (upd (G.T 3) b ((G.I 2) + 1))) := h.pa 3 (by decide) (by decide) (upd (G.T 3) b ((G.I 2) + 1))
    revert h
    generalize mset M (ad 3) (aI cI 16 (upd (G.T 3) b ((G.I 2) + 1))) = M
    intro h
    refine v_aload_n C (i := 0) d_Md_put_37 rfl rfl ?_
    refine v_callV C (As := []) (rest := []) h.o cl_Md rfl w_510 wp_25 (ct_Md_size h) (Nat.le_of_ble_eq_true rfl) (Nat.le_of_ble_eq_true rfl) w_511 w_6 hy_Md_size w_508 rfl (Nat.le_of_ble_eq_true rfl) ⟨by decide, by decide⟩ d_Md_put_38 (fun rv M hp => ?_)
    obtain ⟨rfl, rfl⟩ := hp
    refine V.eqst (st' := [.int (nI (cpos ((((G.sT 2 (upd (G.T 2) b v)).sI 2 ((G.I 2) + 1)).sT 3 (upd (G.T 3) b ((G.I 2) + 1))).T 3) 16))]) rfl (V.cs (k' := 0) (n' := 0) rfl rfl ?_)
    refine v_aload_n C (i := 0) d_Md_put_41 rfl rfl ?_
    refine v_get C (v := .int (G.I 1)) in_Md h.o cl_Md 1 (by decide) w_372 rfl rfl d_Md_put_42 ?_
    refine v_icmp_le C 55 d_Md_put_45 (by decide) (fun c_45 => ?_) (fun c_45 => ?_)
    · refine v_iconst C (v := 0) d_Md_put_55 (by decide) ?_
      refine v_istore_n C (i := 3) (lv' := [(3, .int 0), (0, .ref (ad 0)), (1, .int (nI b)), (2, .int v)]) d_Md_put_56 rfl (by decide) rfl ?_
      exact v_vret hQ C rfl d_Md_put_57 (by omega) (by omega) ⟨rfl, _, Or.inr ⟨Int32.not_lt.mpr c_13, Or.inl ⟨c_45, rfl⟩⟩, h⟩
    · refine v_aload_n C (i := 0) d_Md_put_48 rfl rfl ?_
      refine v_callV C (As := []) (rest := []) h.o cl_Md rfl w_469 w_470 (ct_Md_flush h) (Nat.le_of_ble_eq_true rfl) (Nat.le_of_ble_eq_true rfl) w_471 w_6 hy_Md_flush w_512 rfl (Nat.le_of_ble_eq_true rfl) ⟨by decide, by decide⟩ d_Md_put_49 (fun rv M hp => ?_)
      obtain ⟨x, rfl, G', hf, hw⟩ := hp
      refine V.eqst (st' := [.int x]) rfl (V.cs (k' := 0) (n' := 0) rfl rfl ?_)
      refine v_goto C 56 d_Md_put_52 (by decide) ?_
      refine v_istore_n C (i := 3) (lv' := [(3, .int x), (0, .ref (ad 0)), (1, .int (nI b)), (2, .int v)]) d_Md_put_56 rfl (by decide) rfl ?_
      exact v_vret hQ C rfl d_Md_put_57 (by omega) (by omega) ⟨rfl, G', Or.inr ⟨Int32.not_lt.mpr c_13, Or.inr ⟨c_45, x, hf⟩⟩, hw⟩
  · exact v_vret hQ C rfl d_Md_put_16 (by omega) (by omega) ⟨rfl, _, Or.inl ⟨Int32.not_le.mp c_13, rfl⟩, h⟩
set_option maxHeartbeats 4000000 in
set_option maxRecDepth 100000 in
theorem ct_Md_post0 {D : va_G} {l : Launch} {cI cZ cR cM : ClassId} {M : Mem} {ad : Nat → Nat} {G : G2} (h : R2 cI cZ M ad G) (sz : Nat) (hsz : sz < 64) (hs : G.T 16 0 = nI sz) (a b c d : Int32) : Ct TT D cls (tyL cI cZ cR cM) l y_Md_post b_Md_post 7 none 0 0 0 0 [.ref (ad 0), .int 0, .int a, .int b, .int c, .int d] M (fun rv M' => rv = none ∧ R2 cI cZ M' ad (G.pst 0 sz a b c d 0)) := by
  refine ct_of "BlockTargetSessionModel" rfl (by decide) (Nat.le_of_ble_eq_true rfl) ?_
  intro Z hl hD hnm hQ C
  subst hl
  subst hD
  show V cls 7 (rmOf 0 0 0 0) Z 0 [(0, .ref (ad 0)), (1, .int 0), (2, .int a), (3, .int b), (4, .int c), (5, .int d)] [] M 0 0
  refine v_iload_n C (i := 1) d_Md_post_0 rfl rfl ?_
  refine v_bipush C (v := 64) d_Md_post_1 (by decide) ?_
  refine v_imul C d_Md_post_3 ?_
  refine V.eqst (st' := [.int (nI 0)]) (by rw [show (0 : Int32) * 64 = nI 0 from by decide]) ?_
  refine v_aload_n C (i := 0) d_Md_post_4 rfl rfl ?_
  refine v_get C (v := .ref (ad 16)) in_Md h.o cl_Md 19 (by decide) w_390 rfl rfl d_Md_post_5 ?_
  refine v_iload_n C (i := 1) d_Md_post_8 rfl rfl ?_
  refine v_iald C (N := 2) (f := G.T 16) 0 h.hd rfl (pk_in 0 2 (by decide) (by decide)) d_Md_post_9 ?_
  refine V.eqst (st' := [.int (G.T 16 0), .int (nI 0)]) (by rw [show Int32.toNatClampNeg 0 = 0 from pk_cl _ (hx := by decide)]) ?_
  refine V.eqst (st' := [.int (nI sz), .int (nI 0)]) (by rw [hs]) ?_
  refine v_iadd C d_Md_post_10 ?_
  refine V.eqst (st' := [.int (nI (0 + sz))]) (by rw [nI_add]) ?_
  refine v_istore C (i := 6) (lv' := [(6, .int (nI (0 + sz))), (0, .ref (ad 0)), (1, .int 0), (2, .int a), (3, .int b), (4, .int c), (5, .int d)]) d_Md_post_11 (by decide) rfl ?_
  refine v_aload_n C (i := 0) d_Md_post_13 rfl rfl ?_
  refine v_get C (v := .ref (ad 10)) in_Md h.o cl_Md 13 (by decide) w_384 rfl rfl d_Md_post_14 ?_
  refine v_iload C (i := 6) d_Md_post_17 rfl ?_
  refine v_iload_n C (i := 2) d_Md_post_19 rfl rfl ?_
  refine v_iast C (N := 128) (f := G.T 10) 0 (h.a 10 (by decide) (by decide)) rfl (pk_in (0 + sz) 128 (by omega)) d_Md_post_20 ?_
  rw [show Int32.toNatClampNeg (nI (0 + sz)) = 0 + sz from pk_cl _ (hx := rfl)]
  have h : R2 cI cZ (mset M (ad 10) (aI cI 128 (upd (G.T 10) (0 + sz) a))) ad (G.sT 10 (upd (G.T 10) (0 + sz) a)) := h.pa 10 (by decide) (by decide) (upd (G.T 10) (0 + sz) a)
  revert h
  generalize mset M (ad 10) (aI cI 128 (upd (G.T 10) (0 + sz) a)) = M
  intro h
  refine v_aload_n C (i := 0) d_Md_post_21 rfl rfl ?_
  refine v_get C (v := .ref (ad 11)) in_Md h.o cl_Md 14 (by decide) w_385 rfl rfl d_Md_post_22 ?_
  refine v_iload C (i := 6) d_Md_post_25 rfl ?_
  refine v_iload_n C (i := 3) d_Md_post_27 rfl rfl ?_
  refine v_iast C (N := 128) (f := G.T 11) 0 (h.a 11 (by decide) (by decide)) rfl (pk_in (0 + sz) 128 (by omega)) d_Md_post_28 ?_
  rw [show Int32.toNatClampNeg (nI (0 + sz)) = 0 + sz from pk_cl _ (hx := rfl)]
  have h : R2 cI cZ (mset M (ad 11) (aI cI 128 (upd (G.T 11) (0 + sz) b))) ad ((G.sT 10 (upd (G.T 10) (0 + sz) a)).sT 11 (upd (G.T 11) (0 + sz) b)) := h.pa 11 (by decide) (by decide) (upd (G.T 11) (0 + sz) b)
  revert h
  generalize mset M (ad 11) (aI cI 128 (upd (G.T 11) (0 + sz) b)) = M
  intro h
  refine v_aload_n C (i := 0) d_Md_post_29 rfl rfl ?_
  refine v_get C (v := .ref (ad 12)) in_Md h.o cl_Md 15 (by decide) w_386 rfl rfl d_Md_post_30 ?_
  refine v_iload C (i := 6) d_Md_post_33 rfl ?_
  refine v_iload C (i := 4) d_Md_post_35 rfl ?_
  refine v_iast C (N := 128) (f := G.T 12) 0 (h.a 12 (by decide) (by decide)) rfl (pk_in (0 + sz) 128 (by omega)) d_Md_post_37 ?_
  rw [show Int32.toNatClampNeg (nI (0 + sz)) = 0 + sz from pk_cl _ (hx := rfl)]
  have h : R2 cI cZ (mset M (ad 12) (aI cI 128 (upd (G.T 12) (0 + sz) c))) ad (((G.sT 10 (upd (G.T 10) (0 + sz) a)).sT 11 (upd (G.T 11) (0 + sz) b)).sT 12 (upd (G.T 12) (0 + sz) c)) := h.pa 12 (by decide) (by decide) (upd (G.T 12) (0 + sz) c)
  revert h
  generalize mset M (ad 12) (aI cI 128 (upd (G.T 12) (0 + sz) c)) = M
  intro h
  refine v_aload_n C (i := 0) d_Md_post_38 rfl rfl ?_
  refine v_get C (v := .ref (ad 13)) in_Md h.o cl_Md 16 (by decide) w_387 rfl rfl d_Md_post_39 ?_
  refine v_iload C (i := 6) d_Md_post_42 rfl ?_
  refine v_iload C (i := 5) d_Md_post_44 rfl ?_
  refine v_iast C (N := 128) (f := G.T 13) 0 (h.a 13 (by decide) (by decide)) rfl (pk_in (0 + sz) 128 (by omega)) d_Md_post_46 ?_
  rw [show Int32.toNatClampNeg (nI (0 + sz)) = 0 + sz from pk_cl _ (hx := rfl)]
  have h : R2 cI cZ (mset M (ad 13) (aI cI 128 (upd (G.T 13) (0 + sz) d))) ad ((((G.sT 10 (upd (G.T 10) (0 + sz) a)).sT 11 (upd (G.T 11) (0 + sz) b)).sT 12 (upd (G.T 12) (0 + sz) c)).sT 13 (upd (G.T 13) (0 + sz) d)) := h.pa 13 (by decide) (by decide) (upd (G.T 13) (0 + sz) d)
  revert h
  generalize mset M (ad 13) (aI cI 128 (upd (G.T 13) (0 + sz) d)) = M
  intro h
  refine v_aload_n C (i := 0) d_Md_post_47 rfl rfl ?_
  refine v_get C (v := .ref (ad 14)) in_Md h.o cl_Md 17 (by decide) w_388 rfl rfl d_Md_post_48 ?_
  refine v_iload C (i := 6) d_Md_post_51 rfl ?_
  refine v_iload_n C (i := 1) d_Md_post_53 rfl rfl ?_
  refine v_if_ne C 61 d_Md_post_54 (by decide) (fun c_54 => absurd (rfl) c_54) (fun c_54 => ?_)
  refine v_iconst C (v := 0) d_Md_post_57 (by decide) ?_
  refine v_goto C 70 d_Md_post_58 (by decide) ?_
  refine v_iast C (N := 128) (f := G.T 14) 0 (h.a 14 (by decide) (by decide)) rfl (pk_in (0 + sz) 128 (by omega)) d_Md_post_70 ?_
  rw [show Int32.toNatClampNeg (nI (0 + sz)) = 0 + sz from pk_cl _ (hx := rfl)]
  have h : R2 cI cZ (mset M (ad 14) (aI cI 128 (upd (G.T 14) (0 + sz) 0))) ad (((((G.sT 10 (upd (G.T 10) (0 + sz) a)).sT 11 (upd (G.T 11) (0 + sz) b)).sT 12 (upd (G.T 12) (0 + sz) c)).sT 13 (upd (G.T 13) (0 + sz) d)).sT 14 (upd (G.T 14) (0 + sz) 0)) := h.pa 14 (by decide) (by decide) (upd (G.T 14) (0 + sz) 0)
  revert h
  generalize mset M (ad 14) (aI cI 128 (upd (G.T 14) (0 + sz) 0)) = M
  intro h
  refine v_aload_n C (i := 0) d_Md_post_71 rfl rfl ?_
  refine v_get C (v := .ref (ad 15)) in_Md h.o cl_Md 18 (by decide) w_389 rfl rfl d_Md_post_72 ?_
  refine v_iload C (i := 6) d_Md_post_75 rfl ?_
  refine v_iconst C (v := 0) d_Md_post_77 (by decide) ?_
  refine v_zast C (N := 128) (f := G.T 15) 1 h.z rfl (pk_in (0 + sz) 128 (by omega)) (y := 0) rfl d_Md_post_78 ?_
  rw [show Int32.toNatClampNeg (nI (0 + sz)) = 0 + sz from pk_cl _ (hx := rfl)]
  have h : R2 cI cZ (mset M (ad 15) (aI cZ 128 (upd (G.T 15) (0 + sz) 0))) ad ((((((G.sT 10 (upd (G.T 10) (0 + sz) a)).sT 11 (upd (G.T 11) (0 + sz) b)).sT 12 (upd (G.T 12) (0 + sz) c)).sT 13 (upd (G.T 13) (0 + sz) d)).sT 14 (upd (G.T 14) (0 + sz) 0)).sT 15 (upd (G.T 15) (0 + sz) 0)) := h.pa 15 (by decide) (by decide) (upd (G.T 15) (0 + sz) 0)
  revert h
  generalize mset M (ad 15) (aI cZ 128 (upd (G.T 15) (0 + sz) 0)) = M
  intro h
  refine v_aload_n C (i := 0) d_Md_post_79 rfl rfl ?_
  refine v_get C (v := .ref (ad 16)) in_Md h.o cl_Md 19 (by decide) w_390 rfl rfl d_Md_post_80 ?_
  refine v_iload_n C (i := 1) d_Md_post_83 rfl rfl ?_
  refine v_dup2_11 C d_Md_post_84 rfl rfl ?_
  refine v_iald C (N := 2) (f := G.T 16) 0 h.hd rfl (pk_in 0 2 (by decide) (by decide)) d_Md_post_85 ?_
  refine V.eqst (st' := [.int (G.T 16 0), .int 0, .ref (ad 16)]) (by rw [show Int32.toNatClampNeg 0 = 0 from pk_cl _ (hx := by decide)]) ?_
  refine V.eqst (st' := [.int (nI sz), .int 0, .ref (ad 16)]) (by rw [hs]) ?_
  refine v_iconst C (v := 1) d_Md_post_86 (by decide) ?_
  refine v_iadd C d_Md_post_87 ?_
  refine V.eqst (st' := [.int (nI (sz + 1)), .int 0, .ref (ad 16)]) (by rw [nI_1]) ?_
  refine v_iast C (N := 2) (f := G.T 16) 0 h.hd rfl (pk_in 0 2 (by decide) (by decide)) d_Md_post_88 ?_
  rw [show Int32.toNatClampNeg 0 = 0 from pk_cl _ (hx := by decide)]
  have h : R2 cI cZ (mset M (ad 16) (aI cI 2 (upd (G.T 16) 0 (nI (sz + 1))))) ad (((((((G.sT 10 (upd (G.T 10) (0 + sz) a)).sT 11 (upd (G.T 11) (0 + sz) b)).sT 12 (upd (G.T 12) (0 + sz) c)).sT 13 (upd (G.T 13) (0 + sz) d)).sT 14 (upd (G.T 14) (0 + sz) 0)).sT 15 (upd (G.T 15) (0 + sz) 0)).sT 16 (upd (G.T 16) 0 (nI (sz + 1)))) := h.pa 16 (by decide) (by decide) (upd (G.T 16) 0 (nI (sz + 1)))
  revert h
  generalize mset M (ad 16) (aI cI 2 (upd (G.T 16) 0 (nI (sz + 1)))) = M
  intro h
  exact v_vret hQ C rfl d_Md_post_89 (by omega) (by omega) ⟨rfl, h⟩
set_option maxHeartbeats 4000000 in
set_option maxRecDepth 100000 in
theorem ct_Md_post1 {D : va_G} {l : Launch} {cI cZ cR cM : ClassId} {M : Mem} {ad : Nat → Nat} {G : G2} (h : R2 cI cZ M ad G) (sz : Nat) (hsz : sz < 64) (hs : G.T 16 1 = nI sz) (a b c d : Int32) : Ct TT D cls (tyL cI cZ cR cM) l y_Md_post b_Md_post 7 none 0 0 0 0 [.ref (ad 0), .int 1, .int a, .int b, .int c, .int d] M (fun rv M' => rv = none ∧ R2 cI cZ M' ad (G.pst 1 sz a b c d (G.I 6 + G.I 0))) := by
  refine ct_of "BlockTargetSessionModel" rfl (by decide) (Nat.le_of_ble_eq_true rfl) ?_
  intro Z hl hD hnm hQ C
  subst hl
  subst hD
  show V cls 7 (rmOf 0 0 0 0) Z 0 [(0, .ref (ad 0)), (1, .int 1), (2, .int a), (3, .int b), (4, .int c), (5, .int d)] [] M 0 0
  refine v_iload_n C (i := 1) d_Md_post_0 rfl rfl ?_
  refine v_bipush C (v := 64) d_Md_post_1 (by decide) ?_
  refine v_imul C d_Md_post_3 ?_
  refine V.eqst (st' := [.int (nI 64)]) (by rw [show (1 : Int32) * 64 = nI 64 from by decide]) ?_
  refine v_aload_n C (i := 0) d_Md_post_4 rfl rfl ?_
  refine v_get C (v := .ref (ad 16)) in_Md h.o cl_Md 19 (by decide) w_390 rfl rfl d_Md_post_5 ?_
  refine v_iload_n C (i := 1) d_Md_post_8 rfl rfl ?_
  refine v_iald C (N := 2) (f := G.T 16) 0 h.hd rfl (pk_in 1 2 (by decide) (by decide)) d_Md_post_9 ?_
  refine V.eqst (st' := [.int (G.T 16 1), .int (nI 64)]) (by rw [show Int32.toNatClampNeg 1 = 1 from pk_cl _ (hx := by decide)]) ?_
  refine V.eqst (st' := [.int (nI sz), .int (nI 64)]) (by rw [hs]) ?_
  refine v_iadd C d_Md_post_10 ?_
  refine V.eqst (st' := [.int (nI (64 + sz))]) (by rw [nI_add]) ?_
  refine v_istore C (i := 6) (lv' := [(6, .int (nI (64 + sz))), (0, .ref (ad 0)), (1, .int 1), (2, .int a), (3, .int b), (4, .int c), (5, .int d)]) d_Md_post_11 (by decide) rfl ?_
  refine v_aload_n C (i := 0) d_Md_post_13 rfl rfl ?_
  refine v_get C (v := .ref (ad 10)) in_Md h.o cl_Md 13 (by decide) w_384 rfl rfl d_Md_post_14 ?_
  refine v_iload C (i := 6) d_Md_post_17 rfl ?_
  refine v_iload_n C (i := 2) d_Md_post_19 rfl rfl ?_
  refine v_iast C (N := 128) (f := G.T 10) 0 (h.a 10 (by decide) (by decide)) rfl (pk_in (64 + sz) 128 (by omega)) d_Md_post_20 ?_
  rw [show Int32.toNatClampNeg (nI (64 + sz)) = 64 + sz from pk_cl _ (hx := rfl)]
  have h : R2 cI cZ (mset M (ad 10) (aI cI 128 (upd (G.T 10) (64 + sz) a))) ad (G.sT 10 (upd (G.T 10) (64 + sz) a)) := h.pa 10 (by decide) (by decide) (upd (G.T 10) (64 + sz) a)
  revert h
  generalize mset M (ad 10) (aI cI 128 (upd (G.T 10) (64 + sz) a)) = M
  intro h
  refine v_aload_n C (i := 0) d_Md_post_21 rfl rfl ?_
  refine v_get C (v := .ref (ad 11)) in_Md h.o cl_Md 14 (by decide) w_385 rfl rfl d_Md_post_22 ?_
  refine v_iload C (i := 6) d_Md_post_25 rfl ?_
  refine v_iload_n C (i := 3) d_Md_post_27 rfl rfl ?_
  refine v_iast C (N := 128) (f := G.T 11) 0 (h.a 11 (by decide) (by decide)) rfl (pk_in (64 + sz) 128 (by omega)) d_Md_post_28 ?_
  rw [show Int32.toNatClampNeg (nI (64 + sz)) = 64 + sz from pk_cl _ (hx := rfl)]
  have h : R2 cI cZ (mset M (ad 11) (aI cI 128 (upd (G.T 11) (64 + sz) b))) ad ((G.sT 10 (upd (G.T 10) (64 + sz) a)).sT 11 (upd (G.T 11) (64 + sz) b)) := h.pa 11 (by decide) (by decide) (upd (G.T 11) (64 + sz) b)
  revert h
  generalize mset M (ad 11) (aI cI 128 (upd (G.T 11) (64 + sz) b)) = M
  intro h
  refine v_aload_n C (i := 0) d_Md_post_29 rfl rfl ?_
  refine v_get C (v := .ref (ad 12)) in_Md h.o cl_Md 15 (by decide) w_386 rfl rfl d_Md_post_30 ?_
  refine v_iload C (i := 6) d_Md_post_33 rfl ?_
  refine v_iload C (i := 4) d_Md_post_35 rfl ?_
  refine v_iast C (N := 128) (f := G.T 12) 0 (h.a 12 (by decide) (by decide)) rfl (pk_in (64 + sz) 128 (by omega)) d_Md_post_37 ?_
  rw [show Int32.toNatClampNeg (nI (64 + sz)) = 64 + sz from pk_cl _ (hx := rfl)]
  have h : R2 cI cZ (mset M (ad 12) (aI cI 128 (upd (G.T 12) (64 + sz) c))) ad (((G.sT 10 (upd (G.T 10) (64 + sz) a)).sT 11 (upd (G.T 11) (64 + sz) b)).sT 12 (upd (G.T 12) (64 + sz) c)) := h.pa 12 (by decide) (by decide) (upd (G.T 12) (64 + sz) c)
  revert h
  generalize mset M (ad 12) (aI cI 128 (upd (G.T 12) (64 + sz) c)) = M
  intro h
  refine v_aload_n C (i := 0) d_Md_post_38 rfl rfl ?_
  refine v_get C (v := .ref (ad 13)) in_Md h.o cl_Md 16 (by decide) w_387 rfl rfl d_Md_post_39 ?_
  refine v_iload C (i := 6) d_Md_post_42 rfl ?_
  refine v_iload C (i := 5) d_Md_post_44 rfl ?_
  refine v_iast C (N := 128) (f := G.T 13) 0 (h.a 13 (by decide) (by decide)) rfl (pk_in (64 + sz) 128 (by omega)) d_Md_post_46 ?_
  rw [show Int32.toNatClampNeg (nI (64 + sz)) = 64 + sz from pk_cl _ (hx := rfl)]
  have h : R2 cI cZ (mset M (ad 13) (aI cI 128 (upd (G.T 13) (64 + sz) d))) ad ((((G.sT 10 (upd (G.T 10) (64 + sz) a)).sT 11 (upd (G.T 11) (64 + sz) b)).sT 12 (upd (G.T 12) (64 + sz) c)).sT 13 (upd (G.T 13) (64 + sz) d)) := h.pa 13 (by decide) (by decide) (upd (G.T 13) (64 + sz) d)
  revert h
  generalize mset M (ad 13) (aI cI 128 (upd (G.T 13) (64 + sz) d)) = M
  intro h
  refine v_aload_n C (i := 0) d_Md_post_47 rfl rfl ?_
  refine v_get C (v := .ref (ad 14)) in_Md h.o cl_Md 17 (by decide) w_388 rfl rfl d_Md_post_48 ?_
  refine v_iload C (i := 6) d_Md_post_51 rfl ?_
  refine v_iload_n C (i := 1) d_Md_post_53 rfl rfl ?_
  refine v_if_ne C 61 d_Md_post_54 (by decide) (fun c_54 => ?_) (fun c_54 => absurd c_54 (by decide))
  refine v_aload_n C (i := 0) d_Md_post_61 rfl rfl ?_
  refine v_get C (v := .int (G.I 6)) in_Md h.o cl_Md 22 (by decide) w_393 rfl rfl d_Md_post_62 ?_
  refine v_aload_n C (i := 0) d_Md_post_65 rfl rfl ?_
  refine v_get C (v := .int (G.I 0)) in_Md h.o cl_Md 0 (by decide) w_371 rfl rfl d_Md_post_66 ?_
  refine v_iadd C d_Md_post_69 ?_
  refine v_iast C (N := 128) (f := G.T 14) 0 (h.a 14 (by decide) (by decide)) rfl (pk_in (64 + sz) 128 (by omega)) d_Md_post_70 ?_
  rw [show Int32.toNatClampNeg (nI (64 + sz)) = 64 + sz from pk_cl _ (hx := rfl)]
  have h : R2 cI cZ (mset M (ad 14) (aI cI 128 (upd (G.T 14) (64 + sz) ((G.I 6) + (G.I 0))))) ad (((((G.sT 10 (upd (G.T 10) (64 + sz) a)).sT 11 (upd (G.T 11) (64 + sz) b)).sT 12 (upd (G.T 12) (64 + sz) c)).sT 13 (upd (G.T 13) (64 + sz) d)).sT 14 (upd (G.T 14) (64 + sz) ((G.I 6) + (G.I 0)))) := h.pa 14 (by decide) (by decide) (upd (G.T 14) (64 + sz) ((G.I 6) + (G.I 0)))
  revert h
  generalize mset M (ad 14) (aI cI 128 (upd (G.T 14) (64 + sz) ((G.I 6) + (G.I 0)))) = M
  intro h
  refine v_aload_n C (i := 0) d_Md_post_71 rfl rfl ?_
  refine v_get C (v := .ref (ad 15)) in_Md h.o cl_Md 18 (by decide) w_389 rfl rfl d_Md_post_72 ?_
  refine v_iload C (i := 6) d_Md_post_75 rfl ?_
  refine v_iconst C (v := 0) d_Md_post_77 (by decide) ?_
  refine v_zast C (N := 128) (f := G.T 15) 1 h.z rfl (pk_in (64 + sz) 128 (by omega)) (y := 0) rfl d_Md_post_78 ?_
  rw [show Int32.toNatClampNeg (nI (64 + sz)) = 64 + sz from pk_cl _ (hx := rfl)]
  have h : R2 cI cZ (mset M (ad 15) (aI cZ 128 (upd (G.T 15) (64 + sz) 0))) ad ((((((G.sT 10 (upd (G.T 10) (64 + sz) a)).sT 11 (upd (G.T 11) (64 + sz) b)).sT 12 (upd (G.T 12) (64 + sz) c)).sT 13 (upd (G.T 13) (64 + sz) d)).sT 14 (upd (G.T 14) (64 + sz) ((G.I 6) + (G.I 0)))).sT 15 (upd (G.T 15) (64 + sz) 0)) := h.pa 15 (by decide) (by decide) (upd (G.T 15) (64 + sz) 0)
  revert h
  generalize mset M (ad 15) (aI cZ 128 (upd (G.T 15) (64 + sz) 0)) = M
  intro h
  refine v_aload_n C (i := 0) d_Md_post_79 rfl rfl ?_
  refine v_get C (v := .ref (ad 16)) in_Md h.o cl_Md 19 (by decide) w_390 rfl rfl d_Md_post_80 ?_
  refine v_iload_n C (i := 1) d_Md_post_83 rfl rfl ?_
  refine v_dup2_11 C d_Md_post_84 rfl rfl ?_
  refine v_iald C (N := 2) (f := G.T 16) 0 h.hd rfl (pk_in 1 2 (by decide) (by decide)) d_Md_post_85 ?_
  refine V.eqst (st' := [.int (G.T 16 1), .int 1, .ref (ad 16)]) (by rw [show Int32.toNatClampNeg 1 = 1 from pk_cl _ (hx := by decide)]) ?_
  refine V.eqst (st' := [.int (nI sz), .int 1, .ref (ad 16)]) (by rw [hs]) ?_
  refine v_iconst C (v := 1) d_Md_post_86 (by decide) ?_
  refine v_iadd C d_Md_post_87 ?_
  refine V.eqst (st' := [.int (nI (sz + 1)), .int 1, .ref (ad 16)]) (by rw [nI_1]) ?_
  refine v_iast C (N := 2) (f := G.T 16) 0 h.hd rfl (pk_in 1 2 (by decide) (by decide)) d_Md_post_88 ?_
  rw [show Int32.toNatClampNeg 1 = 1 from pk_cl _ (hx := by decide)]
  have h : R2 cI cZ (mset M (ad 16) (aI cI 2 (upd (G.T 16) 1 (nI (sz + 1))))) ad (((((((G.sT 10 (upd (G.T 10) (64 + sz) a)).sT 11 (upd (G.T 11) (64 + sz) b)).sT 12 (upd (G.T 12) (64 + sz) c)).sT 13 (upd (G.T 13) (64 + sz) d)).sT 14 (upd (G.T 14) (64 + sz) ((G.I 6) + (G.I 0)))).sT 15 (upd (G.T 15) (64 + sz) 0)).sT 16 (upd (G.T 16) 1 (nI (sz + 1)))) := h.pa 16 (by decide) (by decide) (upd (G.T 16) 1 (nI (sz + 1)))
  revert h
  generalize mset M (ad 16) (aI cI 2 (upd (G.T 16) 1 (nI (sz + 1)))) = M
  intro h
  exact v_vret hQ C rfl d_Md_post_89 (by omega) (by omega) ⟨rfl, h⟩
set_option maxHeartbeats 4000000 in
set_option maxRecDepth 100000 in
theorem ct_Md_finish {D : va_G} {l : Launch} {cI cZ cR cM : ClassId} {M : Mem} {ad : Nat → Nat} {G : G2} (h : R2 cI cZ M ad G) (sz : Nat) (hsz : sz < 64) (hs : G.T 16 1 = nI sz) (q : Int32) : Ct TT D cls (tyL cI cZ cR cM) l y_Md_finish b_Md_finish 2 none 1 26 0 0 [.ref (ad 0), .int q] M (fun rv M' => rv = none ∧ R2 cI cZ M' ad (G.fin sz q)) := by
  refine ct_of "BlockTargetSessionModel" rfl (by decide) (Nat.le_of_ble_eq_true rfl) ?_
  intro Z hl hD hnm hQ C
  subst hl
  subst hD
  show V cls 2 (rmOf 1 26 0 0) Z 0 [(0, .ref (ad 0)), (1, .int q)] [] M 0 0
  refine v_aload_n C (i := 0) d_Md_finish_0 rfl rfl ?_
  refine v_dup C d_Md_finish_1 rfl ?_
  refine v_get C (v := .int (G.I 6)) in_Md h.o cl_Md 22 (by decide) w_393 rfl rfl d_Md_finish_2 ?_
  refine v_iconst C (v := 1) d_Md_finish_5 (by decide) ?_
  refine v_iadd C d_Md_finish_6 ?_
  refine v_put C in_Md t_Md to_Md nm_Md h.o cl_Md 22 (by decide) (fs' := [.int (G.I 0), .int (G.I 1), .ref (ad 1), .ref (ad 2), .ref (ad 3), .int (G.I 2), .ref (ad 4), .ref (ad 5), .ref (ad 6), .ref (ad 7), .ref (ad 8), .ref (ad 9), .int (G.I 3), .ref (ad 10), .ref (ad 11), .ref (ad 12), .ref (ad 13), .ref (ad 14), .ref (ad 15), .ref (ad 16), .int (G.I 4), .int (G.I 5), .int ((G.I 6) + 1), .int (G.I 7), .int (G.I 8)]) w_393 rfl rfl rfl rfl (Nat.le_of_ble_eq_true rfl) rfl d_Md_finish_7 ?_
  have h : R2 cI cZ (mset M (ad 0) (ob 5 [.int (G.I 0), .int (G.I 1), .ref (ad 1), .ref (ad 2), .ref (ad 3), .int (G.I 2), .ref (ad 4), .ref (ad 5), .ref (ad 6), .ref (ad 7), .ref (ad 8), .ref (ad 9), .int (G.I 3), .ref (ad 10), .ref (ad 11), .ref (ad 12), .ref (ad 13), .ref (ad 14), .ref (ad 15), .ref (ad 16), .int (G.I 4), .int (G.I 5), .int ((G.I 6) + 1), .int (G.I 7), .int (G.I 8)])) ad (G.sI 6 ((G.I 6) + 1)) := h.po 6 ((G.I 6) + 1)
  revert h
  generalize mset M (ad 0) (ob 5 [.int (G.I 0), .int (G.I 1), .ref (ad 1), .ref (ad 2), .ref (ad 3), .int (G.I 2), .ref (ad 4), .ref (ad 5), .ref (ad 6), .ref (ad 7), .ref (ad 8), .ref (ad 9), .int (G.I 3), .ref (ad 10), .ref (ad 11), .ref (ad 12), .ref (ad 13), .ref (ad 14), .ref (ad 15), .ref (ad 16), .int (G.I 4), .int (G.I 5), .int ((G.I 6) + 1), .int (G.I 7), .int (G.I 8)]) = M
  intro h
  refine v_aload_n C (i := 0) d_Md_finish_10 rfl rfl ?_
  refine v_iconst C (v := 1) d_Md_finish_11 (by decide) ?_
  refine v_iload_n C (i := 1) d_Md_finish_12 rfl rfl ?_
  refine v_iconst C (v := 4) d_Md_finish_13 (by decide) ?_
  refine v_iconst C (v := 0) d_Md_finish_14 (by decide) ?_
  refine v_iconst C (v := 0) d_Md_finish_15 (by decide) ?_
  refine v_callV C (As := [.int 1, .int q, .int 4, .int 0, .int 0]) (rest := []) h.o cl_Md rfl w_486 wp_20 (ct_Md_post1 h sz (by omega) hs q 4 0 0) (Nat.le_of_ble_eq_true rfl) (Nat.le_of_ble_eq_true rfl) w_487 w_6 hy_Md_post w_484 rfl (Nat.le_of_ble_eq_true rfl) ⟨by decide, by decide⟩ d_Md_finish_16 (fun rv M hp => ?_)
  obtain ⟨rfl, hw⟩ := hp
  refine V.eqst (st' := []) rfl (V.cs (k' := 0) (n' := 0) rfl rfl ?_)
  exact v_vret hQ C rfl d_Md_finish_19 (by omega) (by omega) ⟨rfl, hw⟩
set_option maxHeartbeats 4000000 in
set_option maxRecDepth 100000 in
theorem ct_Md_valueOf {D : va_G} {l : Launch} {cI cZ cR cM : ClassId} {M : Mem} {ad : Nat → Nat} {G : G2} (h : R2 cI cZ M ad G) (b : Nat) (hb : b < 16) : Ct TT D cls (tyL cI cZ cR cM) l y_Md_valueOf b_Md_valueOf 2 (some .int) 0 0 0 0 [.ref (ad 0), .int (nI b)] M (fun rv M' => M' = M ∧ rv = some (.int (G.vo b))) := by
  refine ct_of "BlockTargetSessionModel" rfl (by decide) (Nat.le_of_ble_eq_true rfl) ?_
  intro Z hl hD hnm hQ C
  subst hl
  subst hD
  show V cls 2 (rmOf 0 0 0 0) Z 0 [(0, .ref (ad 0)), (1, .int (nI b))] [] M 0 0
  refine v_aload_n C (i := 0) d_Md_valueOf_0 rfl rfl ?_
  refine v_get C (v := .ref (ad 3)) in_Md h.o cl_Md 4 (by decide) w_375 rfl rfl d_Md_valueOf_1 ?_
  refine v_iload_n C (i := 1) d_Md_valueOf_4 rfl rfl ?_
  refine v_iald C (N := 16) (f := G.T 3) 0 (h.a 3 (by decide) (by decide)) rfl (pk_in b 16 hb) d_Md_valueOf_5 ?_
  refine V.eqst (st' := [.int (G.T 3 b)]) (by rw [show Int32.toNatClampNeg (nI b) = b from pk_cl _ (hx := rfl)]) ?_
  refine v_if_le C 18 d_Md_valueOf_6 (by decide) (fun c_6 => ?_) (fun c_6 => ?_)
  · refine v_aload_n C (i := 0) d_Md_valueOf_18 rfl rfl ?_
    refine v_get C (v := .ref (ad 1)) in_Md h.o cl_Md 2 (by decide) w_373 rfl rfl d_Md_valueOf_19 ?_
    refine v_iload_n C (i := 1) d_Md_valueOf_22 rfl rfl ?_
    refine v_iald C (N := 16) (f := G.T 1) 0 (h.a 1 (by decide) (by decide)) rfl (pk_in b 16 hb) d_Md_valueOf_23 ?_
    refine V.eqst (st' := [.int (G.T 1 b)]) (by rw [show Int32.toNatClampNeg (nI b) = b from pk_cl _ (hx := rfl)]) ?_
    exact v_iret hQ C rfl d_Md_valueOf_24 (by omega) (by omega) ⟨rfl, by rw [G2.vo, if_pos c_6]⟩
  · refine v_aload_n C (i := 0) d_Md_valueOf_9 rfl rfl ?_
    refine v_get C (v := .ref (ad 2)) in_Md h.o cl_Md 3 (by decide) w_374 rfl rfl d_Md_valueOf_10 ?_
    refine v_iload_n C (i := 1) d_Md_valueOf_13 rfl rfl ?_
    refine v_iald C (N := 16) (f := G.T 2) 0 (h.a 2 (by decide) (by decide)) rfl (pk_in b 16 hb) d_Md_valueOf_14 ?_
    refine V.eqst (st' := [.int (G.T 2 b)]) (by rw [show Int32.toNatClampNeg (nI b) = b from pk_cl _ (hx := rfl)]) ?_
    refine v_goto C 24 d_Md_valueOf_15 (by decide) ?_
    exact v_iret hQ C rfl d_Md_valueOf_24 (by omega) (by omega) ⟨rfl, by rw [G2.vo, if_neg c_6]⟩
set_option maxHeartbeats 4000000 in
set_option maxRecDepth 100000 in
theorem ct_Md_putAll {D : va_G} {l : Launch} {cI cZ cR cM : ClassId} {M : Mem} {ad : Nat → Nat} {G : G2} (h : R2 cI cZ M ad G) (q : Nat) (hq : q < 120) (f c : Nat) (hf : G.T 5 q = nI f) (hc : G.T 6 q = nI c) (hfc : f + c ≤ 16) (hc3 : c ≤ 3) (sz : Nat) (hsz : sz < 64) (hs : G.T 16 1 = nI sz) : Ct TT D cls (tyL cI cZ cR cM) l y_Md_putAll b_Md_putAll 3 none 3 68 0 0 [.ref (ad 0), .int (nI q)] M (fun rv M' => rv = none ∧ ∃ H, G.ptN f (G.T 7 q) c H ∧ R2 cI cZ M' ad (H.fin sz (nI q))) := by
  refine ct_of "BlockTargetSessionModel" rfl (by decide) (Nat.le_of_ble_eq_true rfl) ?_
  intro Z hl hD hnm hQ C
  subst hl
  subst hD
  show V cls 3 (rmOf 3 68 0 0) Z 0 [(0, .ref (ad 0)), (1, .int (nI q))] [] M 0 0
  refine v_iconst C (v := 0) d_Md_putAll_0 (by decide) ?_
  refine v_istore_n C (i := 2) (lv' := [(2, .int 0), (0, .ref (ad 0)), (1, .int (nI q))]) d_Md_putAll_1 rfl (by decide) rfl ?_
  have L : ∀ (fu i : Nat) (M : Mem) (H : G2), c - i < fu → i ≤ c → G.ptN f (G.T 7 q) i H → R2 cI cZ M ad H → V cls 3 (rmOf 3 68 0 0) Z 2 [(2, .int (nI i)), (0, .ref (ad 0)), (1, .int (nI q))] [] M 0 0 := by
    intro fu
    induction fu with
    | zero => intro i M H hg; omega
    | succ fu ih =>
      intro i M H hg hi hN h
      have sm := ptN_same hN
      have e5 : H.T 5 q = nI f := by rw [sm.2 5 (by decide)]; exact hf
      have e6 : H.T 6 q = nI c := by rw [sm.2 6 (by decide)]; exact hc
      have e7 : H.T 7 q = G.T 7 q := by rw [sm.2 7 (by decide)]
      refine v_iload_n C (i := 2) d_Md_putAll_2 rfl rfl ?_
      refine v_aload_n C (i := 0) d_Md_putAll_3 rfl rfl ?_
      refine v_get C (v := .ref (ad 6)) in_Md h.o cl_Md 8 (by decide) w_379 rfl rfl d_Md_putAll_4 ?_
      refine v_iload_n C (i := 1) d_Md_putAll_7 rfl rfl ?_
      refine v_iald C (N := 120) (f := H.T 6) 0 (h.a 6 (by decide) (by decide)) rfl (pk_in q 120 hq) d_Md_putAll_8 ?_
      refine V.eqst (st' := [.int (H.T 6 q), .int (nI i)]) (by rw [show Int32.toNatClampNeg (nI q) = q from pk_cl _ (hx := rfl)]) ?_
      refine V.eqst (st' := [.int (nI c), .int (nI i)]) (by rw [e6]) ?_
      refine v_icmp_ge C 38 d_Md_putAll_9 (by decide) (fun c_9 => ?_) (fun c_9 => ?_)
      · have hi2 : i = c := Nat.le_antisymm hi ((nI_leI (by omega) (by omega)).mp c_9)
        subst hi2
        refine v_aload_n C (i := 0) d_Md_putAll_38 rfl rfl ?_
        refine v_iload_n C (i := 1) d_Md_putAll_39 rfl rfl ?_
        refine v_callV C (As := [.int (nI q)]) (rest := []) h.o cl_Md rfl w_515 wp_26 (ct_Md_finish h sz hsz (by rw [sm.2 16 (by decide)]; exact hs) (nI q)) (Nat.le_of_ble_eq_true rfl) (Nat.le_of_ble_eq_true rfl) w_516 w_6 hy_Md_finish w_513 rfl (Nat.le_of_ble_eq_true rfl) ⟨by decide, by decide⟩ d_Md_putAll_40 (fun rv M hp => ?_)
        obtain ⟨rfl, hw⟩ := hp
        refine V.eqst (st' := []) rfl (V.cs (k' := 0) (n' := 0) rfl rfl ?_)
        exact v_vret hQ C rfl d_Md_putAll_43 (by omega) (by omega) ⟨rfl, H, hN, hw⟩
      · have hi2 : i < c := Nat.lt_of_not_le (fun z => c_9 ((nI_leI (by omega) (by omega)).mpr z))
        refine v_aload_n C (i := 0) d_Md_putAll_12 rfl rfl ?_
        refine v_aload_n C (i := 0) d_Md_putAll_13 rfl rfl ?_
        refine v_get C (v := .ref (ad 5)) in_Md h.o cl_Md 7 (by decide) w_378 rfl rfl d_Md_putAll_14 ?_
        refine v_iload_n C (i := 1) d_Md_putAll_17 rfl rfl ?_
        refine v_iald C (N := 120) (f := H.T 5) 0 (h.a 5 (by decide) (by decide)) rfl (pk_in q 120 hq) d_Md_putAll_18 ?_
        refine V.eqst (st' := [.int (H.T 5 q), .ref (ad 0)]) (by rw [show Int32.toNatClampNeg (nI q) = q from pk_cl _ (hx := rfl)]) ?_
        refine V.eqst (st' := [.int (nI f), .ref (ad 0)]) (by rw [e5]) ?_
        refine v_iload_n C (i := 2) d_Md_putAll_19 rfl rfl ?_
        refine v_iadd C d_Md_putAll_20 ?_
        refine V.eqst (st' := [.int (nI (f + i)), .ref (ad 0)]) (by rw [nI_add]) ?_
        refine v_aload_n C (i := 0) d_Md_putAll_21 rfl rfl ?_
        refine v_get C (v := .ref (ad 7)) in_Md h.o cl_Md 9 (by decide) w_380 rfl rfl d_Md_putAll_22 ?_
        refine v_iload_n C (i := 1) d_Md_putAll_25 rfl rfl ?_
        refine v_iald C (N := 120) (f := H.T 7) 0 (h.a 7 (by decide) (by decide)) rfl (pk_in q 120 hq) d_Md_putAll_26 ?_
        refine V.eqst (st' := [.int (H.T 7 q), .int (nI (f + i)), .ref (ad 0)]) (by rw [show Int32.toNatClampNeg (nI q) = q from pk_cl _ (hx := rfl)]) ?_
        refine V.eqst (st' := [.int (G.T 7 q), .int (nI (f + i)), .ref (ad 0)]) (by rw [e7]) ?_
        refine v_iload_n C (i := 2) d_Md_putAll_27 rfl rfl ?_
        refine v_iadd C d_Md_putAll_28 ?_
        refine v_callV C (As := [.int (nI (f + i)), .int ((G.T 7 q) + (nI i))]) (rest := []) h.o cl_Md rfl w_506 wp_24 (ct_Md_put h (f + i) (by omega) ((G.T 7 q) + (nI i))) (Nat.le_of_ble_eq_true rfl) (Nat.le_of_ble_eq_true rfl) w_507 w_6 hy_Md_put w_504 rfl (Nat.le_of_ble_eq_true rfl) ⟨by decide, by decide⟩ d_Md_putAll_29 (fun rv M hp => ?_)
        obtain ⟨rfl, H', hpt, hw⟩ := hp
        refine V.eqst (st' := []) rfl (V.cs (k' := 0) (n' := 0) rfl rfl ?_)
        refine v_iinc C (i := 2) (j := 0) (v := nI (i + 1)) (lv' := [(2, .int (nI (i + 1))), (0, .ref (ad 0)), (1, .int (nI q))]) d_Md_putAll_32 rfl (nI_1 i) (by decide) rfl ?_
        refine v_goto C 2 d_Md_putAll_35 (by decide) ?_
        exact ih (i + 1) M H' (by omega) (by omega) ⟨H, hN, hpt⟩ hw
  refine V.pick (lv' := [(2, .int (nI 0)), (0, .ref (ad 0)), (1, .int (nI q))]) [0, 1, 2] (by rw [nI_0]; rfl) ?_
  exact L (c + 1) 0 M G (by omega) (by omega) rfl h
end
section
def G2.asF (G : G2) (q su : Nat) (kd nm : Int32) : G2 := if kd = 2 then G.pst 0 su (nI q) 1 nm 0 0 else G
def G2.pcF (G : G2) (q k : Nat) (kd vl : Int32) : G2 := if kd = 3 then G.sT 9 (upd (G.T 9) (q * 3 + k) vl) else G
theorem nar01 {x : Int32} (h : x = 0 ∨ x = 1) : vp_nar .boolean x = x := by
  rcases h with rfl | rfl <;> decide
theorem G2.ext2 {A B : G2} (h1 : A.I = B.I) (h2 : ∀ t, A.T t = B.T t) : A = B := Prod.ext h1 (funext h2)
theorem shf6_T (G : G2) (b m t : Nat) : (G.shf6 b m).T t = if 10 ≤ t ∧ t ≤ 15 then shb (G.T t) b m else G.T t := by
  unfold G2.shf6
  by_cases h : 10 ≤ t ∧ t ≤ 15
  · rw [if_pos h]
    rcases (show t = 10 ∨ t = 11 ∨ t = 12 ∨ t = 13 ∨ t = 14 ∨ t = 15 by omega) with rfl | rfl | rfl | rfl | rfl | rfl <;> rfl
  · rw [if_neg h]
    rw [sT2_ne _ _ _ _ (by omega), sT2_ne _ _ _ _ (by omega), sT2_ne _ _ _ _ (by omega), sT2_ne _ _ _ _ (by omega), sT2_ne _ _ _ _ (by omega), sT2_ne _ _ _ _ (by omega)]
theorem shf6_s (G : G2) (b i : Nat) : ((((((G.shf6 b i).sT 10 (upd (shb (G.T 10) b i) (b + i) (G.T 10 (b + i + 1)))).sT 11 (upd (shb (G.T 11) b i) (b + i) (G.T 11 (b + i + 1)))).sT 12 (upd (shb (G.T 12) b i) (b + i) (G.T 12 (b + i + 1)))).sT 13 (upd (shb (G.T 13) b i) (b + i) (G.T 13 (b + i + 1)))).sT 14 (upd (shb (G.T 14) b i) (b + i) (G.T 14 (b + i + 1)))).sT 15 (upd (shb (G.T 15) b i) (b + i) (G.T 15 (b + i + 1))) = G.shf6 b (i + 1) := by
  rw [shb_s, shb_s, shb_s, shb_s, shb_s, shb_s]
  refine G2.ext2 rfl (fun t => ?_)
  rw [shf6_T]
  by_cases h : 10 ≤ t ∧ t ≤ 15
  · rw [if_pos h]
    rcases (show t = 10 ∨ t = 11 ∨ t = 12 ∨ t = 13 ∨ t = 14 ∨ t = 15 by omega) with rfl | rfl | rfl | rfl | rfl | rfl <;> rfl
  · rw [if_neg h, sT2_ne _ _ _ _ (by omega), sT2_ne _ _ _ _ (by omega), sT2_ne _ _ _ _ (by omega), sT2_ne _ _ _ _ (by omega), sT2_ne _ _ _ _ (by omega), sT2_ne _ _ _ _ (by omega), shf6_T, if_neg h]
theorem shf6_0 (G : G2) (b : Nat) : G.shf6 b 0 = G := by
  refine G2.ext2 rfl (fun t => ?_)
  rw [shf6_T]
  split
  · rw [shb_0]
  · rfl
def G2.dlv (G : G2) (x m : Nat) : G2 := (G.sT 16 (upd (G.T 16) x (nI m))).shf6 (64 * x) m
theorem dlv_low (G : G2) (x m t : Nat) (ht : t < 10) : (G.dlv x m).T t = G.T t := by
  unfold G2.dlv
  rw [shf6_T, if_neg (by omega), sT2_ne _ _ _ _ (by omega)]
theorem dlv_16 (G : G2) (x m : Nat) : (G.dlv x m).T 16 = upd (G.T 16) x (nI m) := by
  unfold G2.dlv
  rw [shf6_T, if_neg (by omega), sT2_at]
theorem dlv_I (G : G2) (x m : Nat) : (G.dlv x m).I = G.I := rfl
theorem dlv_m (G : G2) (x m t : Nat) (ht : 10 ≤ t ∧ t ≤ 15) : (G.dlv x m).T t = shb (G.T t) (64 * x) m := by
  unfold G2.dlv
  rw [shf6_T, if_pos ht, sT2_ne _ _ _ _ (by omega)]
end
section
set_option maxHeartbeats 4000000 in
set_option maxRecDepth 100000 in
theorem ct_Md_work {D : va_G} {l : Launch} {cI cZ cR cM : ClassId} {M : Mem} {ad : Nat → Nat} {G : G2} (h : R2 cI cZ M ad G) (q : Nat) (hq : q < 120) (f c : Nat) (hf : G.T 5 q = nI f) (hc : G.T 6 q = nI c) (hfc : f + c ≤ 16) (hc3 : c ≤ 3) (sz : Nat) (hsz : sz < 60) (hs : G.T 16 1 = nI sz) (kd nm : Int32) : Ct TT D cls (tyL cI cZ cR cM) l y_Md_work b_Md_work 6 none 4 90 0 0 [.ref (ad 0), .int (nI q), .int kd, .int nm] M (fun rv M' => rv = none ∧ ∃ G', G.wkR q sz f c (if kd = 0 then 1 else nm + 1) G' ∧ R2 cI cZ M' ad G') := by
  refine ct_of "BlockTargetSessionModel" rfl (by decide) (Nat.le_of_ble_eq_true rfl) ?_
  intro Z hl hD hnm hQ C
  subst hl
  subst hD
  show V cls 6 (rmOf 4 90 0 0) Z 0 [(0, .ref (ad 0)), (1, .int (nI q)), (2, .int kd), (3, .int nm)] [] M 0 0
  refine v_aload_n C (i := 0) d_Md_work_0 rfl rfl ?_
  refine v_get C (v := .ref (ad 4)) in_Md h.o cl_Md 6 (by decide) w_377 rfl rfl d_Md_work_1 ?_
  refine v_iload_n C (i := 1) d_Md_work_4 rfl rfl ?_
  refine v_iald C (N := 120) (f := G.T 4) 0 (h.a 4 (by decide) (by decide)) rfl (pk_in q 120 hq) d_Md_work_5 ?_
  refine V.eqst (st' := [.int (G.T 4 q)]) (by rw [show Int32.toNatClampNeg (nI q) = q from pk_cl _ (hx := rfl)]) ?_
  refine v_if_ne C 52 d_Md_work_6 (by decide) (fun c_6 => ?_) (fun c_6 => ?_)
  · refine v_aload_n C (i := 0) d_Md_work_52 rfl rfl ?_
    refine v_get C (v := .ref (ad 4)) in_Md h.o cl_Md 6 (by decide) w_377 rfl rfl d_Md_work_53 ?_
    refine v_iload_n C (i := 1) d_Md_work_56 rfl rfl ?_
    refine v_iald C (N := 120) (f := G.T 4) 0 (h.a 4 (by decide) (by decide)) rfl (pk_in q 120 hq) d_Md_work_57 ?_
    refine V.eqst (st' := [.int (G.T 4 q)]) (by rw [show Int32.toNatClampNeg (nI q) = q from pk_cl _ (hx := rfl)]) ?_
    refine v_iconst C (v := 1) d_Md_work_58 (by decide) ?_
    refine v_icmp_ne C 107 d_Md_work_59 (by decide) (fun c_59 => ?_) (fun c_59 => ?_)
    · refine v_iconst C (v := 0) d_Md_work_107 (by decide) ?_
      refine v_istore C (i := 4) (lv' := [(4, .int 0), (0, .ref (ad 0)), (1, .int (nI q)), (2, .int kd), (3, .int nm)]) d_Md_work_108 (by decide) rfl ?_
      refine v_iconst C (v := 0) d_Md_work_110 (by decide) ?_
      refine v_istore C (i := 5) (lv' := [(5, .int 0), (4, .int 0), (0, .ref (ad 0)), (1, .int (nI q)), (2, .int kd), (3, .int nm)]) d_Md_work_111 (by decide) rfl ?_
      have L : ∀ (fu i : Nat) (M : Mem) (H : G2) (x : Int32), 16 - i < fu → i ≤ 16 → G.flN i H → R2 cI cZ M ad H → V cls 6 (rmOf 4 90 0 0) Z 113 [(5, .int (nI i)), (4, .int x), (0, .ref (ad 0)), (1, .int (nI q)), (2, .int kd), (3, .int nm)] [] M 0 0 := by
        intro fu
        induction fu with
        | zero => intro i M H x hg; omega
        | succ fu ih =>
          intro i M H x hg hi hN h
          have sm := flN_same hN
          refine v_iload C (i := 5) d_Md_work_113 rfl ?_
          refine v_bipush C (v := 16) d_Md_work_115 (by decide) ?_
          refine v_icmp_ge C 132 d_Md_work_117 (by decide) (fun c_117 => ?_) (fun c_117 => ?_)
          · have hi2 : i = 16 := Nat.le_antisymm hi ((nI_leI (a := 16) (by omega) (by omega)).mp c_117)
            subst hi2
            refine v_aload_n C (i := 0) d_Md_work_132 rfl rfl ?_
            refine v_iload_n C (i := 1) d_Md_work_133 rfl rfl ?_
            refine v_callV C (As := [.int (nI q)]) (rest := []) h.o cl_Md rfl w_515 wp_26 (ct_Md_finish h sz (by omega) (by rw [sm.2 16 (by decide) (by decide)]; exact hs) (nI q)) (Nat.le_of_ble_eq_true rfl) (Nat.le_of_ble_eq_true rfl) w_516 w_6 hy_Md_finish w_513 rfl (Nat.le_of_ble_eq_true rfl) ⟨by decide, by decide⟩ d_Md_work_134 (fun rv M hp => ?_)
            obtain ⟨rfl, hw⟩ := hp
            refine V.eqst (st' := []) rfl (V.cs (k' := 0) (n' := 0) rfl rfl ?_)
            exact v_vret hQ C rfl d_Md_work_137 (by omega) (by omega) ⟨rfl, _, Or.inr ⟨c_6, Or.inr ⟨c_59, H, hN, rfl⟩⟩, hw⟩
          · have hi2 : i < 16 := Nat.lt_of_not_le (fun z => c_117 ((nI_leI (a := 16) (by omega) (by omega)).mpr z))
            refine v_aload_n C (i := 0) d_Md_work_120 rfl rfl ?_
            refine v_callV C (As := []) (rest := []) h.o cl_Md rfl w_469 w_470 (ct_Md_flush h) (Nat.le_of_ble_eq_true rfl) (Nat.le_of_ble_eq_true rfl) w_471 w_6 hy_Md_flush w_512 rfl (Nat.le_of_ble_eq_true rfl) ⟨by decide, by decide⟩ d_Md_work_121 (fun rv M hp => ?_)
            obtain ⟨y, rfl, H', hfl, hw⟩ := hp
            refine V.eqst (st' := [.int y]) rfl (V.cs (k' := 0) (n' := 0) rfl rfl ?_)
            refine v_istore C (i := 4) (lv' := [(4, .int y), (5, .int (nI i)), (0, .ref (ad 0)), (1, .int (nI q)), (2, .int kd), (3, .int nm)]) d_Md_work_124 (by decide) rfl ?_
            refine v_iinc C (i := 5) (j := 1) (v := nI (i + 1)) (lv' := [(5, .int (nI (i + 1))), (4, .int y), (0, .ref (ad 0)), (1, .int (nI q)), (2, .int kd), (3, .int nm)]) d_Md_work_126 rfl (nI_1 i) (by decide) rfl ?_
            refine v_goto C 113 d_Md_work_129 (by decide) ?_
            refine V.pick (lv' := [(5, .int (nI (i + 1))), (4, .int y), (0, .ref (ad 0)), (1, .int (nI q)), (2, .int kd), (3, .int nm)]) [0, 1, 2, 3, 4, 5] rfl ?_
            exact ih (i + 1) M H' y (by omega) (by omega) ⟨H, y, hN, hfl⟩ hw
      refine V.pick (lv' := [(5, .int (nI 0)), (4, .int 0), (0, .ref (ad 0)), (1, .int (nI q)), (2, .int kd), (3, .int nm)]) [0, 1, 2, 3, 4, 5] (by rw [nI_0]; rfl) ?_
      exact L 17 0 M G 0 (by omega) (by omega) rfl h
    · refine v_iconst C (v := 0) d_Md_work_62 (by decide) ?_
      refine v_istore C (i := 4) (lv' := [(4, .int 0), (0, .ref (ad 0)), (1, .int (nI q)), (2, .int kd), (3, .int nm)]) d_Md_work_63 (by decide) rfl ?_
      have L : ∀ (fu i : Nat) (M : Mem) (H : G2), c - i < fu → i ≤ c → H = G.rdN (nI q) f sz i → R2 cI cZ M ad H → V cls 6 (rmOf 4 90 0 0) Z 65 [(4, .int (nI i)), (0, .ref (ad 0)), (1, .int (nI q)), (2, .int kd), (3, .int nm)] [] M 0 0 := by
        intro fu
        induction fu with
        | zero => intro i M H hg; omega
        | succ fu ih =>
          intro i M H hg hi hH h
          have e5 : H.T 5 q = nI f := by rw [hH, rdN_low _ _ _ _ 5 (by decide)]; exact hf
          have e6 : H.T 6 q = nI c := by rw [hH, rdN_low _ _ _ _ 6 (by decide)]; exact hc
          have e16 : H.T 16 1 = nI (sz + i) := by rw [hH]; exact rdN_16 _ _ _ _ hs i
          refine v_iload C (i := 4) d_Md_work_65 rfl ?_
          refine v_aload_n C (i := 0) d_Md_work_67 rfl rfl ?_
          refine v_get C (v := .ref (ad 6)) in_Md h.o cl_Md 8 (by decide) w_379 rfl rfl d_Md_work_68 ?_
          refine v_iload_n C (i := 1) d_Md_work_71 rfl rfl ?_
          refine v_iald C (N := 120) (f := H.T 6) 0 (h.a 6 (by decide) (by decide)) rfl (pk_in q 120 hq) d_Md_work_72 ?_
          refine V.eqst (st' := [.int (H.T 6 q), .int (nI i)]) (by rw [show Int32.toNatClampNeg (nI q) = q from pk_cl _ (hx := rfl)]) ?_
          refine V.eqst (st' := [.int (nI c), .int (nI i)]) (by rw [e6]) ?_
          refine v_icmp_ge C 104 d_Md_work_73 (by decide) (fun c_73 => ?_) (fun c_73 => ?_)
          · have hi2 : i = c := Nat.le_antisymm hi ((nI_leI (by omega) (by omega)).mp c_73)
            subst hi2
            refine v_goto C 132 d_Md_work_104 (by decide) ?_
            refine v_aload_n C (i := 0) d_Md_work_132 rfl rfl ?_
            refine v_iload_n C (i := 1) d_Md_work_133 rfl rfl ?_
            refine v_callV C (As := [.int (nI q)]) (rest := []) h.o cl_Md rfl w_515 wp_26 (ct_Md_finish h (sz + i) (by omega) e16 (nI q)) (Nat.le_of_ble_eq_true rfl) (Nat.le_of_ble_eq_true rfl) w_516 w_6 hy_Md_finish w_513 rfl (Nat.le_of_ble_eq_true rfl) ⟨by decide, by decide⟩ d_Md_work_134 (fun rv M hp => ?_)
            obtain ⟨rfl, hw⟩ := hp
            refine V.eqst (st' := []) rfl (V.cs (k' := 0) (n' := 0) rfl rfl ?_)
            exact v_vret hQ C rfl d_Md_work_137 (by omega) (by omega) ⟨rfl, _, Or.inr ⟨c_6, Or.inl ⟨c_59, rfl⟩⟩, by rw [← hH]; exact hw⟩
          · have hi2 : i < c := Nat.lt_of_not_le (fun z => c_73 ((nI_leI (by omega) (by omega)).mpr z))
            refine v_aload_n C (i := 0) d_Md_work_76 rfl rfl ?_
            refine v_iconst C (v := 1) d_Md_work_77 (by decide) ?_
            refine v_iload_n C (i := 1) d_Md_work_78 rfl rfl ?_
            refine v_iconst C (v := 3) d_Md_work_79 (by decide) ?_
            refine v_iload C (i := 4) d_Md_work_80 rfl ?_
            refine v_aload_n C (i := 0) d_Md_work_82 rfl rfl ?_
            refine v_aload_n C (i := 0) d_Md_work_83 rfl rfl ?_
            refine v_get C (v := .ref (ad 5)) in_Md h.o cl_Md 7 (by decide) w_378 rfl rfl d_Md_work_84 ?_
            refine v_iload_n C (i := 1) d_Md_work_87 rfl rfl ?_
            refine v_iald C (N := 120) (f := H.T 5) 0 (h.a 5 (by decide) (by decide)) rfl (pk_in q 120 hq) d_Md_work_88 ?_
            refine V.eqst (st' := [.int (H.T 5 q), .ref (ad 0), .int (nI i), .int 3, .int (nI q), .int 1, .ref (ad 0)]) (by rw [show Int32.toNatClampNeg (nI q) = q from pk_cl _ (hx := rfl)]) ?_
            refine V.eqst (st' := [.int (nI f), .ref (ad 0), .int (nI i), .int 3, .int (nI q), .int 1, .ref (ad 0)]) (by rw [e5]) ?_
            refine v_iload C (i := 4) d_Md_work_89 rfl ?_
            refine v_iadd C d_Md_work_91 ?_
            refine V.eqst (st' := [.int (nI (f + i)), .ref (ad 0), .int (nI i), .int 3, .int (nI q), .int 1, .ref (ad 0)]) (by rw [nI_add]) ?_
            refine v_callV C (As := [.int (nI (f + i))]) (rest := [.int (nI i), .int 3, .int (nI q), .int 1, .ref (ad 0)]) h.o cl_Md rfl w_519 wp_27 (ct_Md_valueOf h (f + i) (by omega)) (Nat.le_of_ble_eq_true rfl) (Nat.le_of_ble_eq_true rfl) w_520 w_6 hy_Md_valueOf w_517 rfl (Nat.le_of_ble_eq_true rfl) ⟨by decide, by decide⟩ d_Md_work_92 (fun rv M hp => ?_)
            obtain ⟨rfl, rfl⟩ := hp
            refine V.eqst (st' := [.int (H.vo (f + i)), .int (nI i), .int 3, .int (nI q), .int 1, .ref (ad 0)]) rfl (V.cs (k' := 0) (n' := 0) rfl rfl ?_)
            refine V.eqst (st' := [.int (G.vo (f + i)), .int (nI i), .int 3, .int (nI q), .int 1, .ref (ad 0)]) (by rw [hH, rdN_vo]) ?_
            refine v_callV C (As := [.int 1, .int (nI q), .int 3, .int (nI i), .int (G.vo (f + i))]) (rest := []) h.o cl_Md rfl w_486 wp_20 (ct_Md_post1 h (sz + i) (by omega) e16 (nI q) 3 (nI i) (G.vo (f + i))) (Nat.le_of_ble_eq_true rfl) (Nat.le_of_ble_eq_true rfl) w_487 w_6 hy_Md_post w_484 rfl (Nat.le_of_ble_eq_true rfl) ⟨by decide, by decide⟩ d_Md_work_95 (fun rv M hp => ?_)
            obtain ⟨rfl, hw⟩ := hp
            refine V.eqst (st' := []) rfl (V.cs (k' := 0) (n' := 0) rfl rfl ?_)
            refine v_iinc C (i := 4) (j := 0) (v := nI (i + 1)) (lv' := [(4, .int (nI (i + 1))), (0, .ref (ad 0)), (1, .int (nI q)), (2, .int kd), (3, .int nm)]) d_Md_work_98 rfl (nI_1 i) (by decide) rfl ?_
            refine v_goto C 65 d_Md_work_101 (by decide) ?_
            exact ih (i + 1) M _ (by omega) (by omega) (by rw [hH, rdN_I]; rfl) hw
      refine V.pick (lv' := [(4, .int (nI 0)), (0, .ref (ad 0)), (1, .int (nI q)), (2, .int kd), (3, .int nm)]) [0, 1, 2, 3, 4] (by rw [nI_0]; rfl) ?_
      exact L (c + 1) 0 M G (by omega) (by omega) rfl h
  · refine v_iload_n C (i := 2) d_Md_work_9 rfl rfl ?_
    refine v_if_ne C 17 d_Md_work_10 (by decide) (fun c_10 => ?_) (fun c_10 => ?_)
    · refine v_iload_n C (i := 3) d_Md_work_17 rfl rfl ?_
      refine v_iconst C (v := 1) d_Md_work_18 (by decide) ?_
      refine v_iadd C d_Md_work_19 ?_
      refine v_istore C (i := 4) (lv' := [(4, .int (nm + 1)), (0, .ref (ad 0)), (1, .int (nI q)), (2, .int kd), (3, .int nm)]) d_Md_work_20 (by decide) rfl ?_
      refine v_iload C (i := 4) d_Md_work_22 rfl ?_
      refine v_aload_n C (i := 0) d_Md_work_24 rfl rfl ?_
      refine v_get C (v := .ref (ad 6)) in_Md h.o cl_Md 8 (by decide) w_379 rfl rfl d_Md_work_25 ?_
      refine v_iload_n C (i := 1) d_Md_work_28 rfl rfl ?_
      refine v_iald C (N := 120) (f := G.T 6) 0 (h.a 6 (by decide) (by decide)) rfl (pk_in q 120 hq) d_Md_work_29 ?_
      refine V.eqst (st' := [.int (G.T 6 q), .int (nm + 1)]) (by rw [show Int32.toNatClampNeg (nI q) = q from pk_cl _ (hx := rfl)]) ?_
      refine V.eqst (st' := [.int (nI c), .int (nm + 1)]) (by rw [hc]) ?_
      refine v_icmp_lt C 41 d_Md_work_30 (by decide) (fun c_30 => ?_) (fun c_30 => ?_)
      · refine v_aload_n C (i := 0) d_Md_work_41 rfl rfl ?_
        refine v_iconst C (v := 1) d_Md_work_42 (by decide) ?_
        refine v_iload_n C (i := 1) d_Md_work_43 rfl rfl ?_
        refine v_iconst C (v := 2) d_Md_work_44 (by decide) ?_
        refine v_iload C (i := 4) d_Md_work_45 rfl ?_
        refine v_iconst C (v := 0) d_Md_work_47 (by decide) ?_
        refine v_callV C (As := [.int 1, .int (nI q), .int 2, .int (nm + 1), .int 0]) (rest := []) h.o cl_Md rfl w_486 wp_20 (ct_Md_post1 h sz (by omega) hs (nI q) 2 (nm + 1) 0) (Nat.le_of_ble_eq_true rfl) (Nat.le_of_ble_eq_true rfl) w_487 w_6 hy_Md_post w_484 rfl (Nat.le_of_ble_eq_true rfl) ⟨by decide, by decide⟩ d_Md_work_48 (fun rv M hp => ?_)
        obtain ⟨rfl, hw⟩ := hp
        refine V.eqst (st' := []) rfl (V.cs (k' := 0) (n' := 0) rfl rfl ?_)
        exact v_vret hQ C rfl d_Md_work_51 (by omega) (by omega) ⟨rfl, _, Or.inl ⟨c_6, Or.inr ⟨by rw [if_neg c_10, hc]; exact c_30, rfl⟩⟩, by rw [if_neg c_10]; exact hw⟩
      · refine v_aload_n C (i := 0) d_Md_work_33 rfl rfl ?_
        refine v_iload_n C (i := 1) d_Md_work_34 rfl rfl ?_
        refine v_callV C (As := [.int (nI q)]) (rest := []) h.o cl_Md rfl w_502 wp_23 (ct_Md_putAll h q hq f c hf hc hfc hc3 sz (by omega) hs) (Nat.le_of_ble_eq_true rfl) (Nat.le_of_ble_eq_true rfl) w_503 w_6 hy_Md_putAll w_500 rfl (Nat.le_of_ble_eq_true rfl) ⟨by decide, by decide⟩ d_Md_work_35 (fun rv M hp => ?_)
        obtain ⟨rfl, H, hN, hw⟩ := hp
        refine V.eqst (st' := []) rfl (V.cs (k' := 0) (n' := 0) rfl rfl ?_)
        refine v_goto C 51 d_Md_work_38 (by decide) ?_
        exact v_vret hQ C rfl d_Md_work_51 (by omega) (by omega) ⟨rfl, _, Or.inl ⟨c_6, Or.inl ⟨by rw [if_neg c_10, hc]; exact c_30, H, hN, rfl⟩⟩, hw⟩
    · refine v_iconst C (v := 1) d_Md_work_13 (by decide) ?_
      refine v_goto C 20 d_Md_work_14 (by decide) ?_
      refine v_istore C (i := 4) (lv' := [(4, .int 1), (0, .ref (ad 0)), (1, .int (nI q)), (2, .int kd), (3, .int nm)]) d_Md_work_20 (by decide) rfl ?_
      refine v_iload C (i := 4) d_Md_work_22 rfl ?_
      refine v_aload_n C (i := 0) d_Md_work_24 rfl rfl ?_
      refine v_get C (v := .ref (ad 6)) in_Md h.o cl_Md 8 (by decide) w_379 rfl rfl d_Md_work_25 ?_
      refine v_iload_n C (i := 1) d_Md_work_28 rfl rfl ?_
      refine v_iald C (N := 120) (f := G.T 6) 0 (h.a 6 (by decide) (by decide)) rfl (pk_in q 120 hq) d_Md_work_29 ?_
      refine V.eqst (st' := [.int (G.T 6 q), .int 1]) (by rw [show Int32.toNatClampNeg (nI q) = q from pk_cl _ (hx := rfl)]) ?_
      refine V.eqst (st' := [.int (nI c), .int 1]) (by rw [hc]) ?_
      refine v_icmp_lt C 41 d_Md_work_30 (by decide) (fun c_30 => ?_) (fun c_30 => ?_)
      · refine v_aload_n C (i := 0) d_Md_work_41 rfl rfl ?_
        refine v_iconst C (v := 1) d_Md_work_42 (by decide) ?_
        refine v_iload_n C (i := 1) d_Md_work_43 rfl rfl ?_
        refine v_iconst C (v := 2) d_Md_work_44 (by decide) ?_
        refine v_iload C (i := 4) d_Md_work_45 rfl ?_
        refine v_iconst C (v := 0) d_Md_work_47 (by decide) ?_
        refine v_callV C (As := [.int 1, .int (nI q), .int 2, .int 1, .int 0]) (rest := []) h.o cl_Md rfl w_486 wp_20 (ct_Md_post1 h sz (by omega) hs (nI q) 2 1 0) (Nat.le_of_ble_eq_true rfl) (Nat.le_of_ble_eq_true rfl) w_487 w_6 hy_Md_post w_484 rfl (Nat.le_of_ble_eq_true rfl) ⟨by decide, by decide⟩ d_Md_work_48 (fun rv M hp => ?_)
        obtain ⟨rfl, hw⟩ := hp
        refine V.eqst (st' := []) rfl (V.cs (k' := 0) (n' := 0) rfl rfl ?_)
        exact v_vret hQ C rfl d_Md_work_51 (by omega) (by omega) ⟨rfl, _, Or.inl ⟨c_6, Or.inr ⟨by rw [if_pos c_10, hc]; exact c_30, rfl⟩⟩, by rw [if_pos c_10]; exact hw⟩
      · refine v_aload_n C (i := 0) d_Md_work_33 rfl rfl ?_
        refine v_iload_n C (i := 1) d_Md_work_34 rfl rfl ?_
        refine v_callV C (As := [.int (nI q)]) (rest := []) h.o cl_Md rfl w_502 wp_23 (ct_Md_putAll h q hq f c hf hc hfc hc3 sz (by omega) hs) (Nat.le_of_ble_eq_true rfl) (Nat.le_of_ble_eq_true rfl) w_503 w_6 hy_Md_putAll w_500 rfl (Nat.le_of_ble_eq_true rfl) ⟨by decide, by decide⟩ d_Md_work_35 (fun rv M hp => ?_)
        obtain ⟨rfl, H, hN, hw⟩ := hp
        refine V.eqst (st' := []) rfl (V.cs (k' := 0) (n' := 0) rfl rfl ?_)
        refine v_goto C 51 d_Md_work_38 (by decide) ?_
        exact v_vret hQ C rfl d_Md_work_51 (by omega) (by omega) ⟨rfl, _, Or.inl ⟨c_6, Or.inl ⟨by rw [if_pos c_10, hc]; exact c_30, H, hN, rfl⟩⟩, hw⟩
set_option maxHeartbeats 4000000 in
set_option maxRecDepth 100000 in
theorem ct_Md_take {D : va_G} {l : Launch} {cI cZ cR cM : ClassId} {M : Mem} {ad : Nat → Nat} {G : G2} (h : R2 cI cZ M ad G) (q : Nat) (hq : q < 120) (su : Nat) (hsu : su < 60) (hu : G.T 16 0 = nI su) (kd nm vl ca : Int32) (hpc : kd = 3 → ∃ k, nm = nI k ∧ k < 3) : Ct TT D cls (tyL cI cZ cR cM) l y_Md_take b_Md_take 6 none 1 26 0 0 [.ref (ad 0), .int (nI q), .int kd, .int nm, .int vl, .int ca] M (fun rv M' => rv = none ∧ ∃ k, (kd = 3 → nm = nI k) ∧ R2 cI cZ M' ad ((((G.cr ca).asF q su kd nm).pcF q k kd vl).tk4 q kd)) := by
  refine ct_of "BlockTargetSessionModel" rfl (by decide) (Nat.le_of_ble_eq_true rfl) ?_
  intro Z hl hD hnm hQ C
  subst hl
  subst hD
  show V cls 6 (rmOf 1 26 0 0) Z 0 [(0, .ref (ad 0)), (1, .int (nI q)), (2, .int kd), (3, .int nm), (4, .int vl), (5, .int ca)] [] M 0 0
  refine v_iload C (i := 5) d_Md_take_0 rfl ?_
  refine v_aload_n C (i := 0) d_Md_take_2 rfl rfl ?_
  refine v_get C (v := .int (G.I 7)) in_Md h.o cl_Md 23 (by decide) w_394 rfl rfl d_Md_take_3 ?_
  refine v_icmp_le C 15 d_Md_take_6 (by decide) (fun c_6 => ?_) (fun c_6 => ?_)
  · refine v_iload_n C (i := 2) d_Md_take_15 rfl rfl ?_
    refine v_iconst C (v := 2) d_Md_take_16 (by decide) ?_
    refine v_icmp_ne C 29 d_Md_take_17 (by decide) (fun c_17 => ?_) (fun c_17 => ?_)
    · refine v_iload_n C (i := 2) d_Md_take_29 rfl rfl ?_
      refine v_iconst C (v := 3) d_Md_take_30 (by decide) ?_
      refine v_icmp_ne C 46 d_Md_take_31 (by decide) (fun c_31 => ?_) (fun c_31 => ?_)
      · refine v_iload_n C (i := 2) d_Md_take_46 rfl rfl ?_
        refine v_iconst C (v := 4) d_Md_take_47 (by decide) ?_
        refine v_icmp_ne C 58 d_Md_take_48 (by decide) (fun c_48 => ?_) (fun c_48 => ?_)
        · exact v_vret hQ C rfl d_Md_take_58 (by omega) (by omega) ⟨rfl, 0, fun z => absurd z c_31, by rw [G2.tk4, if_neg c_48, G2.pcF, if_neg c_31, G2.asF, if_neg c_17, G2.cr, if_pos c_6]; exact h⟩
        · refine v_aload_n C (i := 0) d_Md_take_51 rfl rfl ?_
          refine v_get C (v := .ref (ad 8)) in_Md h.o cl_Md 10 (by decide) w_381 rfl rfl d_Md_take_52 ?_
          refine v_iload_n C (i := 1) d_Md_take_55 rfl rfl ?_
          refine v_iconst C (v := 2) d_Md_take_56 (by decide) ?_
          refine v_iast C (N := 120) (f := G.T 8) 0 (h.a 8 (by decide) (by decide)) rfl (pk_in q 120 hq) d_Md_take_57 ?_
          rw [show Int32.toNatClampNeg (nI q) = q from pk_cl _ (hx := rfl)]
          have h : R2 cI cZ (mset M (ad 8) (aI cI 120 (upd (G.T 8) q 2))) ad (G.sT 8 (upd (G.T 8) q 2)) := h.pa 8 (by decide) (by decide) (upd (G.T 8) q 2)
          revert h
          generalize mset M (ad 8) (aI cI 120 (upd (G.T 8) q 2)) = M
          intro h
          exact v_vret hQ C rfl d_Md_take_58 (by omega) (by omega) ⟨rfl, 0, fun z => absurd z c_31, by rw [G2.tk4, if_pos c_48, G2.pcF, if_neg c_31, G2.asF, if_neg c_17, G2.cr, if_pos c_6]; exact h⟩
      · obtain ⟨k, ek, hk⟩ := hpc c_31
        refine v_aload_n C (i := 0) d_Md_take_34 rfl rfl ?_
        refine v_get C (v := .ref (ad 9)) in_Md h.o cl_Md 11 (by decide) w_382 rfl rfl d_Md_take_35 ?_
        refine v_iload_n C (i := 1) d_Md_take_38 rfl rfl ?_
        refine v_iconst C (v := 3) d_Md_take_39 (by decide) ?_
        refine v_imul C d_Md_take_40 ?_
        refine V.eqst (st' := [.int (nI (q * 3)), .ref (ad 9)]) (by rw [show (3 : Int32) = nI 3 from rfl, pk_mul]) ?_
        refine v_iload_n C (i := 3) d_Md_take_41 rfl rfl ?_
        refine V.eqst (st' := [.int (nI k), .int (nI (q * 3)), .ref (ad 9)]) (by rw [ek]) ?_
        refine v_iadd C d_Md_take_42 ?_
        refine V.eqst (st' := [.int (nI (q * 3 + k)), .ref (ad 9)]) (by rw [nI_add]) ?_
        refine v_iload C (i := 4) d_Md_take_43 rfl ?_
        refine v_iast C (N := 360) (f := G.T 9) 0 (h.a 9 (by decide) (by decide)) rfl (pk_in (q * 3 + k) 360 (by omega)) d_Md_take_45 ?_
        rw [show Int32.toNatClampNeg (nI (q * 3 + k)) = q * 3 + k from pk_cl _ (hx := rfl)]
        have h : R2 cI cZ (mset M (ad 9) (aI cI 360 (upd (G.T 9) (q * 3 + k) vl))) ad (G.sT 9 (upd (G.T 9) (q * 3 + k) vl)) := h.pa 9 (by decide) (by decide) (upd (G.T 9) (q * 3 + k) vl)
        revert h
        generalize mset M (ad 9) (aI cI 360 (upd (G.T 9) (q * 3 + k) vl)) = M
        intro h
        refine v_iload_n C (i := 2) d_Md_take_46 rfl rfl ?_
        refine v_iconst C (v := 4) d_Md_take_47 (by decide) ?_
        refine v_icmp_ne C 58 d_Md_take_48 (by decide) (fun c_48 => ?_) (fun c_48 => ?_)
        · exact v_vret hQ C rfl d_Md_take_58 (by omega) (by omega) ⟨rfl, k, fun z => ek, by rw [G2.tk4, if_neg c_48, G2.pcF, if_pos c_31, G2.asF, if_neg c_17, G2.cr, if_pos c_6]; exact h⟩
        · refine v_aload_n C (i := 0) d_Md_take_51 rfl rfl ?_
          refine v_get C (v := .ref (ad 8)) in_Md h.o cl_Md 10 (by decide) w_381 rfl rfl d_Md_take_52 ?_
          refine v_iload_n C (i := 1) d_Md_take_55 rfl rfl ?_
          refine v_iconst C (v := 2) d_Md_take_56 (by decide) ?_
          refine v_iast C (N := 120) (f := G.T 8) 0 (h.a 8 (by decide) (by decide)) rfl (pk_in q 120 hq) d_Md_take_57 ?_
          rw [show Int32.toNatClampNeg (nI q) = q from pk_cl _ (hx := rfl)]
          have h : R2 cI cZ (mset M (ad 8) (aI cI 120 (upd (G.T 8) q 2))) ad ((G.sT 9 (upd (G.T 9) (q * 3 + k) vl)).sT 8 (upd (G.T 8) q 2)) := h.pa 8 (by decide) (by decide) (upd (G.T 8) q 2)
          revert h
          generalize mset M (ad 8) (aI cI 120 (upd (G.T 8) q 2)) = M
          intro h
          exact v_vret hQ C rfl d_Md_take_58 (by omega) (by omega) ⟨rfl, k, fun z => ek, by rw [G2.tk4, if_pos c_48, G2.pcF, if_pos c_31, G2.asF, if_neg c_17, G2.cr, if_pos c_6]; exact h⟩
    · refine v_aload_n C (i := 0) d_Md_take_20 rfl rfl ?_
      refine v_iconst C (v := 0) d_Md_take_21 (by decide) ?_
      refine v_iload_n C (i := 1) d_Md_take_22 rfl rfl ?_
      refine v_iconst C (v := 1) d_Md_take_23 (by decide) ?_
      refine v_iload_n C (i := 3) d_Md_take_24 rfl rfl ?_
      refine v_iconst C (v := 0) d_Md_take_25 (by decide) ?_
      refine v_callV C (As := [.int 0, .int (nI q), .int 1, .int nm, .int 0]) (rest := []) h.o cl_Md rfl w_486 wp_20 (ct_Md_post0 h su (by omega) hu (nI q) 1 nm 0) (Nat.le_of_ble_eq_true rfl) (Nat.le_of_ble_eq_true rfl) w_487 w_6 hy_Md_post w_484 rfl (Nat.le_of_ble_eq_true rfl) ⟨by decide, by decide⟩ d_Md_take_26 (fun rv M hp => ?_)
      obtain ⟨rfl, h⟩ := hp
      refine V.eqst (st' := []) rfl (V.cs (k' := 0) (n' := 0) rfl rfl ?_)
      refine v_iload_n C (i := 2) d_Md_take_29 rfl rfl ?_
      refine v_iconst C (v := 3) d_Md_take_30 (by decide) ?_
      refine v_icmp_ne C 46 d_Md_take_31 (by decide) (fun c_31 => ?_) (fun c_31 => ?_)
      · refine v_iload_n C (i := 2) d_Md_take_46 rfl rfl ?_
        refine v_iconst C (v := 4) d_Md_take_47 (by decide) ?_
        refine v_icmp_ne C 58 d_Md_take_48 (by decide) (fun c_48 => ?_) (fun c_48 => ?_)
        · exact v_vret hQ C rfl d_Md_take_58 (by omega) (by omega) ⟨rfl, 0, fun z => absurd z c_31, by rw [G2.tk4, if_neg c_48, G2.pcF, if_neg c_31, G2.asF, if_pos c_17, G2.cr, if_pos c_6]; exact h⟩
        · refine v_aload_n C (i := 0) d_Md_take_51 rfl rfl ?_
          refine v_get C (v := .ref (ad 8)) in_Md h.o cl_Md 10 (by decide) w_381 rfl rfl d_Md_take_52 ?_
          refine v_iload_n C (i := 1) d_Md_take_55 rfl rfl ?_
          refine v_iconst C (v := 2) d_Md_take_56 (by decide) ?_
          refine v_iast C (N := 120) (f := (G.pst 0 su (nI q) 1 nm 0 0).T 8) 0 (h.a 8 (by decide) (by decide)) rfl (pk_in q 120 hq) d_Md_take_57 ?_
          rw [show Int32.toNatClampNeg (nI q) = q from pk_cl _ (hx := rfl)]
          have h : R2 cI cZ (mset M (ad 8) (aI cI 120 (upd ((G.pst 0 su (nI q) 1 nm 0 0).T 8) q 2))) ad ((G.pst 0 su (nI q) 1 nm 0 0).sT 8 (upd ((G.pst 0 su (nI q) 1 nm 0 0).T 8) q 2)) := h.pa 8 (by decide) (by decide) (upd ((G.pst 0 su (nI q) 1 nm 0 0).T 8) q 2)
          revert h
          generalize mset M (ad 8) (aI cI 120 (upd ((G.pst 0 su (nI q) 1 nm 0 0).T 8) q 2)) = M
          intro h
          exact v_vret hQ C rfl d_Md_take_58 (by omega) (by omega) ⟨rfl, 0, fun z => absurd z c_31, by rw [G2.tk4, if_pos c_48, G2.pcF, if_neg c_31, G2.asF, if_pos c_17, G2.cr, if_pos c_6]; exact h⟩
      · obtain ⟨k, ek, hk⟩ := hpc c_31
        refine v_aload_n C (i := 0) d_Md_take_34 rfl rfl ?_
        refine v_get C (v := .ref (ad 9)) in_Md h.o cl_Md 11 (by decide) w_382 rfl rfl d_Md_take_35 ?_
        refine v_iload_n C (i := 1) d_Md_take_38 rfl rfl ?_
        refine v_iconst C (v := 3) d_Md_take_39 (by decide) ?_
        refine v_imul C d_Md_take_40 ?_
        refine V.eqst (st' := [.int (nI (q * 3)), .ref (ad 9)]) (by rw [show (3 : Int32) = nI 3 from rfl, pk_mul]) ?_
        refine v_iload_n C (i := 3) d_Md_take_41 rfl rfl ?_
        refine V.eqst (st' := [.int (nI k), .int (nI (q * 3)), .ref (ad 9)]) (by rw [ek]) ?_
        refine v_iadd C d_Md_take_42 ?_
        refine V.eqst (st' := [.int (nI (q * 3 + k)), .ref (ad 9)]) (by rw [nI_add]) ?_
        refine v_iload C (i := 4) d_Md_take_43 rfl ?_
        refine v_iast C (N := 360) (f := (G.pst 0 su (nI q) 1 nm 0 0).T 9) 0 (h.a 9 (by decide) (by decide)) rfl (pk_in (q * 3 + k) 360 (by omega)) d_Md_take_45 ?_
        rw [show Int32.toNatClampNeg (nI (q * 3 + k)) = q * 3 + k from pk_cl _ (hx := rfl)]
        have h : R2 cI cZ (mset M (ad 9) (aI cI 360 (upd ((G.pst 0 su (nI q) 1 nm 0 0).T 9) (q * 3 + k) vl))) ad ((G.pst 0 su (nI q) 1 nm 0 0).sT 9 (upd ((G.pst 0 su (nI q) 1 nm 0 0).T 9) (q * 3 + k) vl)) := h.pa 9 (by decide) (by decide) (upd ((G.pst 0 su (nI q) 1 nm 0 0).T 9) (q * 3 + k) vl)
        revert h
        generalize mset M (ad 9) (aI cI 360 (upd ((G.pst 0 su (nI q) 1 nm 0 0).T 9) (q * 3 + k) vl)) = M
        intro h
        refine v_iload_n C (i := 2) d_Md_take_46 rfl rfl ?_
        refine v_iconst C (v := 4) d_Md_take_47 (by decide) ?_
        refine v_icmp_ne C 58 d_Md_take_48 (by decide) (fun c_48 => ?_) (fun c_48 => ?_)
        · exact v_vret hQ C rfl d_Md_take_58 (by omega) (by omega) ⟨rfl, k, fun z => ek, by rw [G2.tk4, if_neg c_48, G2.pcF, if_pos c_31, G2.asF, if_pos c_17, G2.cr, if_pos c_6]; exact h⟩
        · refine v_aload_n C (i := 0) d_Md_take_51 rfl rfl ?_
          refine v_get C (v := .ref (ad 8)) in_Md h.o cl_Md 10 (by decide) w_381 rfl rfl d_Md_take_52 ?_
          refine v_iload_n C (i := 1) d_Md_take_55 rfl rfl ?_
          refine v_iconst C (v := 2) d_Md_take_56 (by decide) ?_
          refine v_iast C (N := 120) (f := (G.pst 0 su (nI q) 1 nm 0 0).T 8) 0 (h.a 8 (by decide) (by decide)) rfl (pk_in q 120 hq) d_Md_take_57 ?_
          rw [show Int32.toNatClampNeg (nI q) = q from pk_cl _ (hx := rfl)]
          have h : R2 cI cZ (mset M (ad 8) (aI cI 120 (upd ((G.pst 0 su (nI q) 1 nm 0 0).T 8) q 2))) ad (((G.pst 0 su (nI q) 1 nm 0 0).sT 9 (upd ((G.pst 0 su (nI q) 1 nm 0 0).T 9) (q * 3 + k) vl)).sT 8 (upd ((G.pst 0 su (nI q) 1 nm 0 0).T 8) q 2)) := h.pa 8 (by decide) (by decide) (upd ((G.pst 0 su (nI q) 1 nm 0 0).T 8) q 2)
          revert h
          generalize mset M (ad 8) (aI cI 120 (upd ((G.pst 0 su (nI q) 1 nm 0 0).T 8) q 2)) = M
          intro h
          exact v_vret hQ C rfl d_Md_take_58 (by omega) (by omega) ⟨rfl, k, fun z => ek, by rw [G2.tk4, if_pos c_48, G2.pcF, if_pos c_31, G2.asF, if_pos c_17, G2.cr, if_pos c_6]; exact h⟩
  · refine v_aload_n C (i := 0) d_Md_take_9 rfl rfl ?_
    refine v_iload C (i := 5) d_Md_take_10 rfl ?_
    refine v_put C in_Md t_Md to_Md nm_Md h.o cl_Md 23 (by decide) (fs' := [.int (G.I 0), .int (G.I 1), .ref (ad 1), .ref (ad 2), .ref (ad 3), .int (G.I 2), .ref (ad 4), .ref (ad 5), .ref (ad 6), .ref (ad 7), .ref (ad 8), .ref (ad 9), .int (G.I 3), .ref (ad 10), .ref (ad 11), .ref (ad 12), .ref (ad 13), .ref (ad 14), .ref (ad 15), .ref (ad 16), .int (G.I 4), .int (G.I 5), .int (G.I 6), .int ca, .int (G.I 8)]) w_394 rfl rfl rfl rfl (Nat.le_of_ble_eq_true rfl) rfl d_Md_take_12 ?_
    have h : R2 cI cZ (mset M (ad 0) (ob 5 [.int (G.I 0), .int (G.I 1), .ref (ad 1), .ref (ad 2), .ref (ad 3), .int (G.I 2), .ref (ad 4), .ref (ad 5), .ref (ad 6), .ref (ad 7), .ref (ad 8), .ref (ad 9), .int (G.I 3), .ref (ad 10), .ref (ad 11), .ref (ad 12), .ref (ad 13), .ref (ad 14), .ref (ad 15), .ref (ad 16), .int (G.I 4), .int (G.I 5), .int (G.I 6), .int ca, .int (G.I 8)])) ad (G.sI 7 ca) := h.po 7 ca
    revert h
    generalize mset M (ad 0) (ob 5 [.int (G.I 0), .int (G.I 1), .ref (ad 1), .ref (ad 2), .ref (ad 3), .int (G.I 2), .ref (ad 4), .ref (ad 5), .ref (ad 6), .ref (ad 7), .ref (ad 8), .ref (ad 9), .int (G.I 3), .ref (ad 10), .ref (ad 11), .ref (ad 12), .ref (ad 13), .ref (ad 14), .ref (ad 15), .ref (ad 16), .int (G.I 4), .int (G.I 5), .int (G.I 6), .int ca, .int (G.I 8)]) = M
    intro h
    refine v_iload_n C (i := 2) d_Md_take_15 rfl rfl ?_
    refine v_iconst C (v := 2) d_Md_take_16 (by decide) ?_
    refine v_icmp_ne C 29 d_Md_take_17 (by decide) (fun c_17 => ?_) (fun c_17 => ?_)
    · refine v_iload_n C (i := 2) d_Md_take_29 rfl rfl ?_
      refine v_iconst C (v := 3) d_Md_take_30 (by decide) ?_
      refine v_icmp_ne C 46 d_Md_take_31 (by decide) (fun c_31 => ?_) (fun c_31 => ?_)
      · refine v_iload_n C (i := 2) d_Md_take_46 rfl rfl ?_
        refine v_iconst C (v := 4) d_Md_take_47 (by decide) ?_
        refine v_icmp_ne C 58 d_Md_take_48 (by decide) (fun c_48 => ?_) (fun c_48 => ?_)
        · exact v_vret hQ C rfl d_Md_take_58 (by omega) (by omega) ⟨rfl, 0, fun z => absurd z c_31, by rw [G2.tk4, if_neg c_48, G2.pcF, if_neg c_31, G2.asF, if_neg c_17, G2.cr, if_neg c_6]; exact h⟩
        · refine v_aload_n C (i := 0) d_Md_take_51 rfl rfl ?_
          refine v_get C (v := .ref (ad 8)) in_Md h.o cl_Md 10 (by decide) w_381 rfl rfl d_Md_take_52 ?_
          refine v_iload_n C (i := 1) d_Md_take_55 rfl rfl ?_
          refine v_iconst C (v := 2) d_Md_take_56 (by decide) ?_
          refine v_iast C (N := 120) (f := G.T 8) 0 (h.a 8 (by decide) (by decide)) rfl (pk_in q 120 hq) d_Md_take_57 ?_
          rw [show Int32.toNatClampNeg (nI q) = q from pk_cl _ (hx := rfl)]
          have h : R2 cI cZ (mset M (ad 8) (aI cI 120 (upd (G.T 8) q 2))) ad ((G.sI 7 ca).sT 8 (upd (G.T 8) q 2)) := h.pa 8 (by decide) (by decide) (upd (G.T 8) q 2)
          revert h
          generalize mset M (ad 8) (aI cI 120 (upd (G.T 8) q 2)) = M
          intro h
          exact v_vret hQ C rfl d_Md_take_58 (by omega) (by omega) ⟨rfl, 0, fun z => absurd z c_31, by rw [G2.tk4, if_pos c_48, G2.pcF, if_neg c_31, G2.asF, if_neg c_17, G2.cr, if_neg c_6]; exact h⟩
      · obtain ⟨k, ek, hk⟩ := hpc c_31
        refine v_aload_n C (i := 0) d_Md_take_34 rfl rfl ?_
        refine v_get C (v := .ref (ad 9)) in_Md h.o cl_Md 11 (by decide) w_382 rfl rfl d_Md_take_35 ?_
        refine v_iload_n C (i := 1) d_Md_take_38 rfl rfl ?_
        refine v_iconst C (v := 3) d_Md_take_39 (by decide) ?_
        refine v_imul C d_Md_take_40 ?_
        refine V.eqst (st' := [.int (nI (q * 3)), .ref (ad 9)]) (by rw [show (3 : Int32) = nI 3 from rfl, pk_mul]) ?_
        refine v_iload_n C (i := 3) d_Md_take_41 rfl rfl ?_
        refine V.eqst (st' := [.int (nI k), .int (nI (q * 3)), .ref (ad 9)]) (by rw [ek]) ?_
        refine v_iadd C d_Md_take_42 ?_
        refine V.eqst (st' := [.int (nI (q * 3 + k)), .ref (ad 9)]) (by rw [nI_add]) ?_
        refine v_iload C (i := 4) d_Md_take_43 rfl ?_
        refine v_iast C (N := 360) (f := G.T 9) 0 (h.a 9 (by decide) (by decide)) rfl (pk_in (q * 3 + k) 360 (by omega)) d_Md_take_45 ?_
        rw [show Int32.toNatClampNeg (nI (q * 3 + k)) = q * 3 + k from pk_cl _ (hx := rfl)]
        have h : R2 cI cZ (mset M (ad 9) (aI cI 360 (upd (G.T 9) (q * 3 + k) vl))) ad ((G.sI 7 ca).sT 9 (upd (G.T 9) (q * 3 + k) vl)) := h.pa 9 (by decide) (by decide) (upd (G.T 9) (q * 3 + k) vl)
        revert h
        generalize mset M (ad 9) (aI cI 360 (upd (G.T 9) (q * 3 + k) vl)) = M
        intro h
        refine v_iload_n C (i := 2) d_Md_take_46 rfl rfl ?_
        refine v_iconst C (v := 4) d_Md_take_47 (by decide) ?_
        refine v_icmp_ne C 58 d_Md_take_48 (by decide) (fun c_48 => ?_) (fun c_48 => ?_)
        · exact v_vret hQ C rfl d_Md_take_58 (by omega) (by omega) ⟨rfl, k, fun z => ek, by rw [G2.tk4, if_neg c_48, G2.pcF, if_pos c_31, G2.asF, if_neg c_17, G2.cr, if_neg c_6]; exact h⟩
        · refine v_aload_n C (i := 0) d_Md_take_51 rfl rfl ?_
          refine v_get C (v := .ref (ad 8)) in_Md h.o cl_Md 10 (by decide) w_381 rfl rfl d_Md_take_52 ?_
          refine v_iload_n C (i := 1) d_Md_take_55 rfl rfl ?_
          refine v_iconst C (v := 2) d_Md_take_56 (by decide) ?_
          refine v_iast C (N := 120) (f := G.T 8) 0 (h.a 8 (by decide) (by decide)) rfl (pk_in q 120 hq) d_Md_take_57 ?_
          rw [show Int32.toNatClampNeg (nI q) = q from pk_cl _ (hx := rfl)]
          have h : R2 cI cZ (mset M (ad 8) (aI cI 120 (upd (G.T 8) q 2))) ad (((G.sI 7 ca).sT 9 (upd (G.T 9) (q * 3 + k) vl)).sT 8 (upd (G.T 8) q 2)) := h.pa 8 (by decide) (by decide) (upd (G.T 8) q 2)
          revert h
          generalize mset M (ad 8) (aI cI 120 (upd (G.T 8) q 2)) = M
          intro h
          exact v_vret hQ C rfl d_Md_take_58 (by omega) (by omega) ⟨rfl, k, fun z => ek, by rw [G2.tk4, if_pos c_48, G2.pcF, if_pos c_31, G2.asF, if_neg c_17, G2.cr, if_neg c_6]; exact h⟩
    · refine v_aload_n C (i := 0) d_Md_take_20 rfl rfl ?_
      refine v_iconst C (v := 0) d_Md_take_21 (by decide) ?_
      refine v_iload_n C (i := 1) d_Md_take_22 rfl rfl ?_
      refine v_iconst C (v := 1) d_Md_take_23 (by decide) ?_
      refine v_iload_n C (i := 3) d_Md_take_24 rfl rfl ?_
      refine v_iconst C (v := 0) d_Md_take_25 (by decide) ?_
      refine v_callV C (As := [.int 0, .int (nI q), .int 1, .int nm, .int 0]) (rest := []) h.o cl_Md rfl w_486 wp_20 (ct_Md_post0 h su (by omega) hu (nI q) 1 nm 0) (Nat.le_of_ble_eq_true rfl) (Nat.le_of_ble_eq_true rfl) w_487 w_6 hy_Md_post w_484 rfl (Nat.le_of_ble_eq_true rfl) ⟨by decide, by decide⟩ d_Md_take_26 (fun rv M hp => ?_)
      obtain ⟨rfl, h⟩ := hp
      refine V.eqst (st' := []) rfl (V.cs (k' := 0) (n' := 0) rfl rfl ?_)
      refine v_iload_n C (i := 2) d_Md_take_29 rfl rfl ?_
      refine v_iconst C (v := 3) d_Md_take_30 (by decide) ?_
      refine v_icmp_ne C 46 d_Md_take_31 (by decide) (fun c_31 => ?_) (fun c_31 => ?_)
      · refine v_iload_n C (i := 2) d_Md_take_46 rfl rfl ?_
        refine v_iconst C (v := 4) d_Md_take_47 (by decide) ?_
        refine v_icmp_ne C 58 d_Md_take_48 (by decide) (fun c_48 => ?_) (fun c_48 => ?_)
        · exact v_vret hQ C rfl d_Md_take_58 (by omega) (by omega) ⟨rfl, 0, fun z => absurd z c_31, by rw [G2.tk4, if_neg c_48, G2.pcF, if_neg c_31, G2.asF, if_pos c_17, G2.cr, if_neg c_6]; exact h⟩
        · refine v_aload_n C (i := 0) d_Md_take_51 rfl rfl ?_
          refine v_get C (v := .ref (ad 8)) in_Md h.o cl_Md 10 (by decide) w_381 rfl rfl d_Md_take_52 ?_
          refine v_iload_n C (i := 1) d_Md_take_55 rfl rfl ?_
          refine v_iconst C (v := 2) d_Md_take_56 (by decide) ?_
          refine v_iast C (N := 120) (f := ((G.sI 7 ca).pst 0 su (nI q) 1 nm 0 0).T 8) 0 (h.a 8 (by decide) (by decide)) rfl (pk_in q 120 hq) d_Md_take_57 ?_
          rw [show Int32.toNatClampNeg (nI q) = q from pk_cl _ (hx := rfl)]
          have h : R2 cI cZ (mset M (ad 8) (aI cI 120 (upd (((G.sI 7 ca).pst 0 su (nI q) 1 nm 0 0).T 8) q 2))) ad (((G.sI 7 ca).pst 0 su (nI q) 1 nm 0 0).sT 8 (upd (((G.sI 7 ca).pst 0 su (nI q) 1 nm 0 0).T 8) q 2)) := h.pa 8 (by decide) (by decide) (upd (((G.sI 7 ca).pst 0 su (nI q) 1 nm 0 0).T 8) q 2)
          revert h
          generalize mset M (ad 8) (aI cI 120 (upd (((G.sI 7 ca).pst 0 su (nI q) 1 nm 0 0).T 8) q 2)) = M
          intro h
          exact v_vret hQ C rfl d_Md_take_58 (by omega) (by omega) ⟨rfl, 0, fun z => absurd z c_31, by rw [G2.tk4, if_pos c_48, G2.pcF, if_neg c_31, G2.asF, if_pos c_17, G2.cr, if_neg c_6]; exact h⟩
      · obtain ⟨k, ek, hk⟩ := hpc c_31
        refine v_aload_n C (i := 0) d_Md_take_34 rfl rfl ?_
        refine v_get C (v := .ref (ad 9)) in_Md h.o cl_Md 11 (by decide) w_382 rfl rfl d_Md_take_35 ?_
        refine v_iload_n C (i := 1) d_Md_take_38 rfl rfl ?_
        refine v_iconst C (v := 3) d_Md_take_39 (by decide) ?_
        refine v_imul C d_Md_take_40 ?_
        refine V.eqst (st' := [.int (nI (q * 3)), .ref (ad 9)]) (by rw [show (3 : Int32) = nI 3 from rfl, pk_mul]) ?_
        refine v_iload_n C (i := 3) d_Md_take_41 rfl rfl ?_
        refine V.eqst (st' := [.int (nI k), .int (nI (q * 3)), .ref (ad 9)]) (by rw [ek]) ?_
        refine v_iadd C d_Md_take_42 ?_
        refine V.eqst (st' := [.int (nI (q * 3 + k)), .ref (ad 9)]) (by rw [nI_add]) ?_
        refine v_iload C (i := 4) d_Md_take_43 rfl ?_
        refine v_iast C (N := 360) (f := ((G.sI 7 ca).pst 0 su (nI q) 1 nm 0 0).T 9) 0 (h.a 9 (by decide) (by decide)) rfl (pk_in (q * 3 + k) 360 (by omega)) d_Md_take_45 ?_
        rw [show Int32.toNatClampNeg (nI (q * 3 + k)) = q * 3 + k from pk_cl _ (hx := rfl)]
        have h : R2 cI cZ (mset M (ad 9) (aI cI 360 (upd (((G.sI 7 ca).pst 0 su (nI q) 1 nm 0 0).T 9) (q * 3 + k) vl))) ad (((G.sI 7 ca).pst 0 su (nI q) 1 nm 0 0).sT 9 (upd (((G.sI 7 ca).pst 0 su (nI q) 1 nm 0 0).T 9) (q * 3 + k) vl)) := h.pa 9 (by decide) (by decide) (upd (((G.sI 7 ca).pst 0 su (nI q) 1 nm 0 0).T 9) (q * 3 + k) vl)
        revert h
        generalize mset M (ad 9) (aI cI 360 (upd (((G.sI 7 ca).pst 0 su (nI q) 1 nm 0 0).T 9) (q * 3 + k) vl)) = M
        intro h
        refine v_iload_n C (i := 2) d_Md_take_46 rfl rfl ?_
        refine v_iconst C (v := 4) d_Md_take_47 (by decide) ?_
        refine v_icmp_ne C 58 d_Md_take_48 (by decide) (fun c_48 => ?_) (fun c_48 => ?_)
        · exact v_vret hQ C rfl d_Md_take_58 (by omega) (by omega) ⟨rfl, k, fun z => ek, by rw [G2.tk4, if_neg c_48, G2.pcF, if_pos c_31, G2.asF, if_pos c_17, G2.cr, if_neg c_6]; exact h⟩
        · refine v_aload_n C (i := 0) d_Md_take_51 rfl rfl ?_
          refine v_get C (v := .ref (ad 8)) in_Md h.o cl_Md 10 (by decide) w_381 rfl rfl d_Md_take_52 ?_
          refine v_iload_n C (i := 1) d_Md_take_55 rfl rfl ?_
          refine v_iconst C (v := 2) d_Md_take_56 (by decide) ?_
          refine v_iast C (N := 120) (f := ((G.sI 7 ca).pst 0 su (nI q) 1 nm 0 0).T 8) 0 (h.a 8 (by decide) (by decide)) rfl (pk_in q 120 hq) d_Md_take_57 ?_
          rw [show Int32.toNatClampNeg (nI q) = q from pk_cl _ (hx := rfl)]
          have h : R2 cI cZ (mset M (ad 8) (aI cI 120 (upd (((G.sI 7 ca).pst 0 su (nI q) 1 nm 0 0).T 8) q 2))) ad ((((G.sI 7 ca).pst 0 su (nI q) 1 nm 0 0).sT 9 (upd (((G.sI 7 ca).pst 0 su (nI q) 1 nm 0 0).T 9) (q * 3 + k) vl)).sT 8 (upd (((G.sI 7 ca).pst 0 su (nI q) 1 nm 0 0).T 8) q 2)) := h.pa 8 (by decide) (by decide) (upd (((G.sI 7 ca).pst 0 su (nI q) 1 nm 0 0).T 8) q 2)
          revert h
          generalize mset M (ad 8) (aI cI 120 (upd (((G.sI 7 ca).pst 0 su (nI q) 1 nm 0 0).T 8) q 2)) = M
          intro h
          exact v_vret hQ C rfl d_Md_take_58 (by omega) (by omega) ⟨rfl, k, fun z => ek, by rw [G2.tk4, if_pos c_48, G2.pcF, if_pos c_31, G2.asF, if_pos c_17, G2.cr, if_neg c_6]; exact h⟩
set_option maxHeartbeats 4000000 in
set_option maxRecDepth 100000 in
theorem ct_Md_end {D : va_G} {l : Launch} {cI cZ cR cM : ClassId} {M : Mem} {ad : Nat → Nat} {G : G2} (h : R2 cI cZ M ad G) (n : Nat) (hn : G.I 3 = nI n) (hn120 : n ≤ 120) : Ct TT D cls (tyL cI cZ cR cM) l y_Md_end b_Md_end 2 none 0 0 0 0 [.ref (ad 0)] M (fun rv M' => rv = none ∧ R2 cI cZ M' ad (G.end_ n)) := by
  refine ct_of "BlockTargetSessionModel" rfl (by decide) (Nat.le_of_ble_eq_true rfl) ?_
  intro Z hl hD hnm hQ C
  subst hl
  subst hD
  show V cls 2 (rmOf 0 0 0 0) Z 0 [(0, .ref (ad 0))] [] M 0 0
  refine v_aload_n C (i := 0) d_Md_end_0 rfl rfl ?_
  refine v_iconst C (v := 0) d_Md_end_1 (by decide) ?_
  refine v_put C in_Md t_Md to_Md nm_Md h.o cl_Md 20 (by decide) (fs' := [.int (G.I 0), .int (G.I 1), .ref (ad 1), .ref (ad 2), .ref (ad 3), .int (G.I 2), .ref (ad 4), .ref (ad 5), .ref (ad 6), .ref (ad 7), .ref (ad 8), .ref (ad 9), .int (G.I 3), .ref (ad 10), .ref (ad 11), .ref (ad 12), .ref (ad 13), .ref (ad 14), .ref (ad 15), .ref (ad 16), .int 0, .int (G.I 5), .int (G.I 6), .int (G.I 7), .int (G.I 8)]) w_391 rfl rfl rfl rfl (Nat.le_of_ble_eq_true rfl) rfl d_Md_end_2 ?_
  have h : R2 cI cZ (mset M (ad 0) (ob 5 [.int (G.I 0), .int (G.I 1), .ref (ad 1), .ref (ad 2), .ref (ad 3), .int (G.I 2), .ref (ad 4), .ref (ad 5), .ref (ad 6), .ref (ad 7), .ref (ad 8), .ref (ad 9), .int (G.I 3), .ref (ad 10), .ref (ad 11), .ref (ad 12), .ref (ad 13), .ref (ad 14), .ref (ad 15), .ref (ad 16), .int 0, .int (G.I 5), .int (G.I 6), .int (G.I 7), .int (G.I 8)])) ad (G.sI 4 0) := h.po 4 0
  revert h
  generalize mset M (ad 0) (ob 5 [.int (G.I 0), .int (G.I 1), .ref (ad 1), .ref (ad 2), .ref (ad 3), .int (G.I 2), .ref (ad 4), .ref (ad 5), .ref (ad 6), .ref (ad 7), .ref (ad 8), .ref (ad 9), .int (G.I 3), .ref (ad 10), .ref (ad 11), .ref (ad 12), .ref (ad 13), .ref (ad 14), .ref (ad 15), .ref (ad 16), .int 0, .int (G.I 5), .int (G.I 6), .int (G.I 7), .int (G.I 8)]) = M
  intro h
  refine v_aload_n C (i := 0) d_Md_end_5 rfl rfl ?_
  refine v_get C (v := .ref (ad 16)) in_Md h.o cl_Md 19 (by decide) w_390 rfl rfl d_Md_end_6 ?_
  refine v_iconst C (v := 0) d_Md_end_9 (by decide) ?_
  refine v_iconst C (v := 0) d_Md_end_10 (by decide) ?_
  refine v_iast C (N := 2) (f := G.T 16) 0 h.hd rfl (pk_in 0 2 (by decide) nI_0.symm) d_Md_end_11 ?_
  rw [show Int32.toNatClampNeg 0 = 0 from pk_cl _ (hx := nI_0.symm)]
  have h : R2 cI cZ (mset M (ad 16) (aI cI 2 (upd (G.T 16) 0 0))) ad ((G.sI 4 0).sT 16 (upd (G.T 16) 0 0)) := h.pa 16 (by decide) (by decide) (upd (G.T 16) 0 0)
  revert h
  generalize mset M (ad 16) (aI cI 2 (upd (G.T 16) 0 0)) = M
  intro h
  refine v_aload_n C (i := 0) d_Md_end_12 rfl rfl ?_
  refine v_get C (v := .ref (ad 16)) in_Md h.o cl_Md 19 (by decide) w_390 rfl rfl d_Md_end_13 ?_
  refine v_iconst C (v := 1) d_Md_end_16 (by decide) ?_
  refine v_iconst C (v := 0) d_Md_end_17 (by decide) ?_
  refine v_iast C (N := 2) (f := upd (G.T 16) 0 0) 0 h.hd rfl (pk_in 1 2 (by decide) (by decide)) d_Md_end_18 ?_
  rw [show Int32.toNatClampNeg 1 = 1 from pk_cl _ (hx := by decide)]
  have h : R2 cI cZ (mset M (ad 16) (aI cI 2 (upd (upd (G.T 16) 0 0) 1 0))) ad (((G.sI 4 0).sT 16 (upd (G.T 16) 0 0)).sT 16 (upd (upd (G.T 16) 0 0) 1 0)) := h.pa 16 (by decide) (by decide) (upd (upd (G.T 16) 0 0) 1 0)
  revert h
  generalize mset M (ad 16) (aI cI 2 (upd (upd (G.T 16) 0 0) 1 0)) = M
  intro h
  refine v_iconst C (v := 0) d_Md_end_19 (by decide) ?_
  refine v_istore_n C (i := 1) (lv' := [(1, .int 0), (0, .ref (ad 0))]) d_Md_end_20 rfl (by decide) rfl ?_
  obtain ⟨Hb, hHb⟩ : ∃ Hb, Hb = (((G.sI 4 0).sT 16 (upd (G.T 16) 0 0)).sT 16 (upd (upd (G.T 16) 0 0) 1 0)) := ⟨_, rfl⟩
  rw [← hHb] at h
  have b3 : Hb.I 3 = nI n := by rw [hHb]; exact hn
  have b8 : Hb.T 8 = G.T 8 := by rw [hHb]; rfl
  have L : ∀ (fu i : Nat) (M : Mem), n - i < fu → i ≤ n → R2 cI cZ M ad (Hb.sT 8 (rop (G.T 8) i)) → V cls 2 (rmOf 0 0 0 0) Z 21 [(1, .int (nI i)), (0, .ref (ad 0))] [] M 0 0 := by
    intro fu
    induction fu with
    | zero => intro i M hf; omega
    | succ fu ih =>
      intro i M hf hi h
      refine v_iload_n C (i := 1) d_Md_end_21 rfl rfl ?_
      refine v_aload_n C (i := 0) d_Md_end_22 rfl rfl ?_
      refine v_get C (v := .int (Hb.I 3)) in_Md h.o cl_Md 12 (by decide) w_383 rfl rfl d_Md_end_23 ?_
      refine V.eqst (st' := [.int (nI n), .int (nI i)]) (by rw [b3]) ?_
      refine v_icmp_ge C 52 d_Md_end_26 (by decide) (fun c_26 => ?_) (fun c_26 => ?_)
      · have hi2 : i = n := Nat.le_antisymm hi ((nI_leI (by omega) (by omega)).mp c_26)
        exact v_vret hQ C rfl d_Md_end_52 (by omega) (by omega) ⟨rfl, by rw [hi2, hHb] at h; exact h⟩
      · have hi2 : i < n := Nat.lt_of_not_le (fun z => c_26 ((nI_leI (by omega) (by omega)).mpr z))
        refine v_aload_n C (i := 0) d_Md_end_29 rfl rfl ?_
        refine v_get C (v := .ref (ad 8)) in_Md h.o cl_Md 10 (by decide) w_381 rfl rfl d_Md_end_30 ?_
        refine v_iload_n C (i := 1) d_Md_end_33 rfl rfl ?_
        refine v_iald C (N := 120) (f := rop (G.T 8) i) 0 (h.a 8 (by decide) (by decide)) rfl (pk_in i 120 (by omega)) d_Md_end_34 ?_
        refine V.eqst (st' := [.int ((rop (G.T 8) i) i)]) (by rw [show Int32.toNatClampNeg (nI i) = i from pk_cl _ (hx := rfl)]) ?_
        refine v_iconst C (v := 1) d_Md_end_35 (by decide) ?_
        refine v_icmp_ne C 46 d_Md_end_36 (by decide) (fun c_36 => ?_) (fun c_36 => ?_)
        · rw [rop_at] at c_36
          refine v_iinc C (i := 1) (j := 0) (v := nI (i + 1)) (lv' := [(1, .int (nI (i + 1))), (0, .ref (ad 0))]) d_Md_end_46 rfl (nI_1 i) (by decide) rfl ?_
          refine v_goto C 21 d_Md_end_49 (by decide) ?_
          exact ih (i + 1) M (by omega) (by omega) (by rw [← rop_f _ _ c_36]; exact h)
        · rw [rop_at] at c_36
          refine v_aload_n C (i := 0) d_Md_end_39 rfl rfl ?_
          refine v_get C (v := .ref (ad 8)) in_Md h.o cl_Md 10 (by decide) w_381 rfl rfl d_Md_end_40 ?_
          refine v_iload_n C (i := 1) d_Md_end_43 rfl rfl ?_
          refine v_iconst C (v := 0) d_Md_end_44 (by decide) ?_
          refine v_iast C (N := 120) (f := rop (G.T 8) i) 0 (h.a 8 (by decide) (by decide)) rfl (pk_in i 120 (by omega)) d_Md_end_45 ?_
          rw [show Int32.toNatClampNeg (nI i) = i from pk_cl _ (hx := rfl)]
          have h : R2 cI cZ (mset M (ad 8) (aI cI 120 (upd (rop (G.T 8) i) i 0))) ad ((Hb.sT 8 (rop (G.T 8) i)).sT 8 (upd (rop (G.T 8) i) i 0)) := h.pa 8 (by decide) (by decide) (upd (rop (G.T 8) i) i 0)
          revert h
          generalize mset M (ad 8) (aI cI 120 (upd (rop (G.T 8) i) i 0)) = M
          intro h
          rw [G2.sT_same, rop_t _ _ c_36] at h
          refine v_iinc C (i := 1) (j := 0) (v := nI (i + 1)) (lv' := [(1, .int (nI (i + 1))), (0, .ref (ad 0))]) d_Md_end_46 rfl (nI_1 i) (by decide) rfl ?_
          refine v_goto C 21 d_Md_end_49 (by decide) ?_
          exact ih (i + 1) M (by omega) (by omega) h
  refine V.pick (lv' := [(1, .int (nI 0)), (0, .ref (ad 0))]) [0, 1] (by rw [nI_0]; rfl) ?_
  refine L (n + 1) 0 M (by omega) (by omega) ?_
  rw [rop_0, ← b8, G2.sT_id]
  exact h
end
section
set_option maxHeartbeats 4000000 in
set_option maxRecDepth 100000 in
theorem ct_Md_deliverU {D : va_G} {l : Launch} {cI cZ cR cM : ClassId} {M : Mem} {ad : Nat → Nat} {G : G2} (h : R2 cI cZ M ad G) (u : Int32) (hu : ¬ u = 0) (n : Nat) (hn : G.I 3 = nI n) (hn120 : n ≤ 120) (su sd : Nat) (hsu : su < 60) (hsd : sd < 60) (hs0 : G.T 16 0 = nI su) (hs1 : G.T 16 1 = nI sd) (hz : ∀ j, G.T 15 j = 0 ∨ G.T 15 j = 1) (hq : 0 < su → ∃ q f c, G.T 10 0 = nI q ∧ q < 120 ∧ G.T 5 q = nI f ∧ G.T 6 q = nI c ∧ f + c ≤ 16 ∧ c ≤ 3) : Ct TT D cls (tyL cI cZ cR cM) l y_Md_deliver b_Md_deliver 10 (some .int) 5 115 0 0 [.ref (ad 0), .int u] M (fun rv M' => (G.I 4 = 0 ∧ rv = some (.int (-4)) ∧ R2 cI cZ M' ad G) ∨ (¬ G.I 4 = 0 ∧ su = 0 ∧ rv = some (.int (-3)) ∧ R2 cI cZ M' ad G) ∨ (¬ G.I 4 = 0 ∧ ∃ m, su = m + 1 ∧ ((¬ G.T 15 0 = 0 ∧ rv = some (.int (-5)) ∧ R2 cI cZ M' ad (G.end_ n)) ∨ (G.T 15 0 = 0 ∧ rv = some (.int (G.T 11 0)) ∧ ∃ (q f c : Nat), G.T 10 0 = nI q ∧ G.T 5 q = nI f ∧ G.T 6 q = nI c ∧ ∃ G', (G.dlv 0 m).wkR q sd f c (if G.T 11 0 = 0 then 1 else G.T 12 0 + 1) G' ∧ R2 cI cZ M' ad G')))) := by
  refine ct_of "BlockTargetSessionModel" rfl (by decide) (Nat.le_of_ble_eq_true rfl) ?_
  intro Z hl hD hnm hQ C
  subst hl
  subst hD
  show V cls 10 (rmOf 5 115 0 0) Z 0 [(0, .ref (ad 0)), (1, .int u)] [] M 0 0
  refine v_iload_n C (i := 1) d_Md_deliver_0 rfl rfl ?_
  refine v_if_eq C 8 d_Md_deliver_1 (by decide) (fun c_1 => absurd c_1 (hu)) (fun c_1 => ?_)
  refine v_iconst C (v := 0) d_Md_deliver_4 (by decide) ?_
  refine v_goto C 9 d_Md_deliver_5 (by decide) ?_
  refine v_istore_n C (i := 2) (lv' := [(2, .int 0), (0, .ref (ad 0)), (1, .int u)]) d_Md_deliver_9 rfl (by decide) rfl ?_
  refine v_aload_n C (i := 0) d_Md_deliver_10 rfl rfl ?_
  refine v_get C (v := .int (G.I 4)) in_Md h.o cl_Md 20 (by decide) w_391 rfl rfl d_Md_deliver_11 ?_
  refine v_if_ne C 20 d_Md_deliver_14 (by decide) (fun c_14 => ?_) (fun c_14 => ?_)
  · refine v_aload_n C (i := 0) d_Md_deliver_20 rfl rfl ?_
    refine v_get C (v := .ref (ad 16)) in_Md h.o cl_Md 19 (by decide) w_390 rfl rfl d_Md_deliver_21 ?_
    refine v_iload_n C (i := 2) d_Md_deliver_24 rfl rfl ?_
    refine v_iald C (N := 2) (f := G.T 16) 0 h.hd rfl (pk_in 0 2 (by decide) (by decide)) d_Md_deliver_25 ?_
    refine V.eqst (st' := [.int (G.T 16 0)]) (by rw [show Int32.toNatClampNeg 0 = 0 from pk_cl _ (hx := by decide)]) ?_
    refine V.eqst (st' := [.int (nI su)]) (by rw [hs0]) ?_
    refine v_if_ne C 32 d_Md_deliver_26 (by decide) (fun c_26 => ?_) (fun c_26 => ?_)
    · obtain ⟨m, rfl⟩ : ∃ m, su = m + 1 := ⟨su - 1, by have : su ≠ 0 := fun z => c_26 (by rw [z]; exact nI_0); omega⟩
      refine v_iload_n C (i := 2) d_Md_deliver_32 rfl rfl ?_
      refine v_bipush C (v := 64) d_Md_deliver_33 (by decide) ?_
      refine v_imul C d_Md_deliver_35 ?_
      refine V.eqst (st' := [.int (nI 0)]) (by rw [show (0 : Int32) * 64 = nI 0 from by decide]) ?_
      refine v_istore_n C (i := 3) (lv' := [(3, .int (nI 0)), (2, .int 0), (0, .ref (ad 0)), (1, .int u)]) d_Md_deliver_36 rfl (by decide) rfl ?_
      refine v_aload_n C (i := 0) d_Md_deliver_37 rfl rfl ?_
      refine v_get C (v := .ref (ad 10)) in_Md h.o cl_Md 13 (by decide) w_384 rfl rfl d_Md_deliver_38 ?_
      refine v_iload_n C (i := 3) d_Md_deliver_41 rfl rfl ?_
      refine v_iald C (N := 128) (f := G.T 10) 0 (h.a 10 (by decide) (by decide)) rfl (pk_in 0 128 (by decide)) d_Md_deliver_42 ?_
      refine V.eqst (st' := [.int (G.T 10 0)]) (by rw [show Int32.toNatClampNeg (nI 0) = 0 from pk_cl _ (hx := rfl)]) ?_
      refine v_istore C (i := 4) (lv' := [(4, .int (G.T 10 0)), (3, .int (nI 0)), (2, .int 0), (0, .ref (ad 0)), (1, .int u)]) d_Md_deliver_43 (by decide) rfl ?_
      refine v_aload_n C (i := 0) d_Md_deliver_45 rfl rfl ?_
      refine v_get C (v := .ref (ad 11)) in_Md h.o cl_Md 14 (by decide) w_385 rfl rfl d_Md_deliver_46 ?_
      refine v_iload_n C (i := 3) d_Md_deliver_49 rfl rfl ?_
      refine v_iald C (N := 128) (f := G.T 11) 0 (h.a 11 (by decide) (by decide)) rfl (pk_in 0 128 (by decide)) d_Md_deliver_50 ?_
      refine V.eqst (st' := [.int (G.T 11 0)]) (by rw [show Int32.toNatClampNeg (nI 0) = 0 from pk_cl _ (hx := rfl)]) ?_
      refine v_istore C (i := 5) (lv' := [(5, .int (G.T 11 0)), (4, .int (G.T 10 0)), (3, .int (nI 0)), (2, .int 0), (0, .ref (ad 0)), (1, .int u)]) d_Md_deliver_51 (by decide) rfl ?_
      refine v_aload_n C (i := 0) d_Md_deliver_53 rfl rfl ?_
      refine v_get C (v := .ref (ad 12)) in_Md h.o cl_Md 15 (by decide) w_386 rfl rfl d_Md_deliver_54 ?_
      refine v_iload_n C (i := 3) d_Md_deliver_57 rfl rfl ?_
      refine v_iald C (N := 128) (f := G.T 12) 0 (h.a 12 (by decide) (by decide)) rfl (pk_in 0 128 (by decide)) d_Md_deliver_58 ?_
      refine V.eqst (st' := [.int (G.T 12 0)]) (by rw [show Int32.toNatClampNeg (nI 0) = 0 from pk_cl _ (hx := rfl)]) ?_
      refine v_istore C (i := 6) (lv' := [(6, .int (G.T 12 0)), (5, .int (G.T 11 0)), (4, .int (G.T 10 0)), (3, .int (nI 0)), (2, .int 0), (0, .ref (ad 0)), (1, .int u)]) d_Md_deliver_59 (by decide) rfl ?_
      refine v_aload_n C (i := 0) d_Md_deliver_61 rfl rfl ?_
      refine v_get C (v := .ref (ad 13)) in_Md h.o cl_Md 16 (by decide) w_387 rfl rfl d_Md_deliver_62 ?_
      refine v_iload_n C (i := 3) d_Md_deliver_65 rfl rfl ?_
      refine v_iald C (N := 128) (f := G.T 13) 0 (h.a 13 (by decide) (by decide)) rfl (pk_in 0 128 (by decide)) d_Md_deliver_66 ?_
      refine V.eqst (st' := [.int (G.T 13 0)]) (by rw [show Int32.toNatClampNeg (nI 0) = 0 from pk_cl _ (hx := rfl)]) ?_
      refine v_istore C (i := 7) (lv' := [(7, .int (G.T 13 0)), (6, .int (G.T 12 0)), (5, .int (G.T 11 0)), (4, .int (G.T 10 0)), (3, .int (nI 0)), (2, .int 0), (0, .ref (ad 0)), (1, .int u)]) d_Md_deliver_67 (by decide) rfl ?_
      refine v_aload_n C (i := 0) d_Md_deliver_69 rfl rfl ?_
      refine v_get C (v := .ref (ad 14)) in_Md h.o cl_Md 17 (by decide) w_388 rfl rfl d_Md_deliver_70 ?_
      refine v_iload_n C (i := 3) d_Md_deliver_73 rfl rfl ?_
      refine v_iald C (N := 128) (f := G.T 14) 0 (h.a 14 (by decide) (by decide)) rfl (pk_in 0 128 (by decide)) d_Md_deliver_74 ?_
      refine V.eqst (st' := [.int (G.T 14 0)]) (by rw [show Int32.toNatClampNeg (nI 0) = 0 from pk_cl _ (hx := rfl)]) ?_
      refine v_istore C (i := 8) (lv' := [(8, .int (G.T 14 0)), (7, .int (G.T 13 0)), (6, .int (G.T 12 0)), (5, .int (G.T 11 0)), (4, .int (G.T 10 0)), (3, .int (nI 0)), (2, .int 0), (0, .ref (ad 0)), (1, .int u)]) d_Md_deliver_75 (by decide) rfl ?_
      refine v_aload_n C (i := 0) d_Md_deliver_77 rfl rfl ?_
      refine v_get C (v := .ref (ad 15)) in_Md h.o cl_Md 18 (by decide) w_389 rfl rfl d_Md_deliver_78 ?_
      refine v_iload_n C (i := 3) d_Md_deliver_81 rfl rfl ?_
      refine v_zald C (N := 128) (f := G.T 15) 1 h.z rfl (pk_in 0 128 (by decide)) d_Md_deliver_82 ?_
      refine V.eqst (st' := [.int (G.T 15 0)]) (by rw [show Int32.toNatClampNeg (nI 0) = 0 from pk_cl _ (hx := rfl)]) ?_
      refine v_if_eq C 93 d_Md_deliver_83 (by decide) (fun c_83 => ?_) (fun c_83 => ?_)
      · refine v_aload_n C (i := 0) d_Md_deliver_93 rfl rfl ?_
        refine v_get C (v := .ref (ad 16)) in_Md h.o cl_Md 19 (by decide) w_390 rfl rfl d_Md_deliver_94 ?_
        refine v_iload_n C (i := 2) d_Md_deliver_97 rfl rfl ?_
        refine v_dup2_11 C d_Md_deliver_98 rfl rfl ?_
        refine v_iald C (N := 2) (f := G.T 16) 0 h.hd rfl (pk_in 0 2 (by decide) (by decide)) d_Md_deliver_99 ?_
        refine V.eqst (st' := [.int (G.T 16 0), .int 0, .ref (ad 16)]) (by rw [show Int32.toNatClampNeg 0 = 0 from pk_cl _ (hx := by decide)]) ?_
        refine V.eqst (st' := [.int (nI (m + 1)), .int 0, .ref (ad 16)]) (by rw [hs0]) ?_
        refine v_iconst C (v := 1) d_Md_deliver_100 (by decide) ?_
        refine v_isub C d_Md_deliver_101 ?_
        refine V.eqst (st' := [.int (nI m), .int 0, .ref (ad 16)]) (by rw [nI_pred]) ?_
        refine v_iast C (N := 2) (f := G.T 16) 0 h.hd rfl (pk_in 0 2 (by decide) (by decide)) d_Md_deliver_102 ?_
        rw [show Int32.toNatClampNeg 0 = 0 from pk_cl _ (hx := by decide)]
        have h : R2 cI cZ (mset M (ad 16) (aI cI 2 (upd (G.T 16) 0 (nI m)))) ad (G.sT 16 (upd (G.T 16) 0 (nI m))) := h.pa 16 (by decide) (by decide) (upd (G.T 16) 0 (nI m))
        revert h
        generalize mset M (ad 16) (aI cI 2 (upd (G.T 16) 0 (nI m))) = M
        intro h
        refine v_iload_n C (i := 3) d_Md_deliver_103 rfl rfl ?_
        refine v_istore C (i := 9) (lv' := [(9, .int (nI 0)), (8, .int (G.T 14 0)), (7, .int (G.T 13 0)), (6, .int (G.T 12 0)), (5, .int (G.T 11 0)), (4, .int (G.T 10 0)), (3, .int (nI 0)), (2, .int 0), (0, .ref (ad 0)), (1, .int u)]) d_Md_deliver_104 (by decide) rfl ?_
        obtain ⟨Gd, hGd⟩ : ∃ Gd, Gd = (G.sT 16 (upd (G.T 16) 0 (nI m))) := ⟨_, rfl⟩
        rw [← hGd] at h
        have e16 : Gd.T 16 0 = nI m := by rw [hGd, sT2_at, pk_us]
        have hzd : ∀ j, Gd.T 15 j = 0 ∨ Gd.T 15 j = 1 := by intro j; rw [hGd, sT2_ne _ _ _ _ (by decide)]; exact hz j
        have L : ∀ (fu i : Nat) (M : Mem), m - i < fu → i ≤ m → R2 cI cZ M ad (Gd.shf6 0 i) → V cls 10 (rmOf 5 115 0 0) Z 106 [(9, .int (nI (0 + i))), (8, .int (G.T 14 0)), (7, .int (G.T 13 0)), (6, .int (G.T 12 0)), (5, .int (G.T 11 0)), (4, .int (G.T 10 0)), (3, .int (nI 0)), (2, .int 0), (0, .ref (ad 0)), (1, .int u)] [] M 0 0 := by
          intro fu
          induction fu with
          | zero => intro i M hf; omega
          | succ fu ih =>
            intro i M hf hi h
            refine v_iload C (i := 9) d_Md_deliver_106 rfl ?_
            refine v_iload_n C (i := 3) d_Md_deliver_108 rfl rfl ?_
            refine v_aload_n C (i := 0) d_Md_deliver_109 rfl rfl ?_
            refine v_get C (v := .ref (ad 16)) in_Md h.o cl_Md 19 (by decide) w_390 rfl rfl d_Md_deliver_110 ?_
            refine v_iload_n C (i := 2) d_Md_deliver_113 rfl rfl ?_
            refine v_iald C (N := 2) (f := Gd.T 16) 0 h.hd rfl (pk_in 0 2 (by decide) (by decide)) d_Md_deliver_114 ?_
            refine V.eqst (st' := [.int (Gd.T 16 0), .int (nI 0), .int (nI (0 + i))]) (by rw [show Int32.toNatClampNeg 0 = 0 from pk_cl _ (hx := by decide)]) ?_
            refine V.eqst (st' := [.int (nI m), .int (nI 0), .int (nI (0 + i))]) (by rw [e16]) ?_
            refine v_iadd C d_Md_deliver_115 ?_
            refine V.eqst (st' := [.int (nI (0 + m)), .int (nI (0 + i))]) (by rw [nI_add]) ?_
            refine v_icmp_ge C 221 d_Md_deliver_116 (by decide) (fun c_116 => ?_) (fun c_116 => ?_)
            · have hi2 : i = m := Nat.le_antisymm hi (by have := (nI_leI (by omega) (by omega)).mp c_116; omega)
              subst hi2
              obtain ⟨q, f, c, eq, hq, hf, hc, hfc, hc3⟩ := hq (by omega)
              refine V.pick (lv' := [(9, .int (nI (0 + i))), (8, .int (G.T 14 0)), (7, .int (G.T 13 0)), (6, .int (G.T 12 0)), (5, .int (G.T 11 0)), (4, .int (nI q)), (3, .int (nI 0)), (2, .int 0), (0, .ref (ad 0)), (1, .int u)]) [0, 1, 2, 3, 4, 5, 6, 7, 8, 9] (by rw [← eq]; rfl) ?_
              have h : R2 cI cZ M ad (G.dlv 0 i) := by rw [hGd] at h; exact h
              refine v_iload_n C (i := 1) d_Md_deliver_221 rfl rfl ?_
              refine v_if_eq C 238 d_Md_deliver_222 (by decide) (fun c_222 => absurd c_222 (hu)) (fun c_222 => ?_)
              refine v_aload_n C (i := 0) d_Md_deliver_225 rfl rfl ?_
              refine v_iload C (i := 4) d_Md_deliver_226 rfl ?_
              refine v_iload C (i := 5) d_Md_deliver_228 rfl ?_
              refine v_iload C (i := 6) d_Md_deliver_230 rfl ?_
              refine v_callV C (As := [.int (nI q), .int (G.T 11 0), .int (G.T 12 0)]) (rest := []) h.o cl_Md rfl w_498 wp_22 (ct_Md_work h q hq f c (by rw [dlv_low _ _ _ _ (by decide)]; exact hf) (by rw [dlv_low _ _ _ _ (by decide)]; exact hc) hfc hc3 sd (by omega) (by rw [dlv_16, pk_un (by decide)]; exact hs1) (G.T 11 0) (G.T 12 0)) (Nat.le_of_ble_eq_true rfl) (Nat.le_of_ble_eq_true rfl) w_499 w_6 hy_Md_work w_496 rfl (Nat.le_of_ble_eq_true rfl) ⟨by decide, by decide⟩ d_Md_deliver_232 (fun rv M hp => ?_)
              obtain ⟨rfl, G', hwk, hw⟩ := hp
              refine V.eqst (st' := []) rfl (V.cs (k' := 0) (n' := 0) rfl rfl ?_)
              refine v_goto C 252 d_Md_deliver_235 (by decide) ?_
              refine v_iload C (i := 5) d_Md_deliver_252 rfl ?_
              exact v_iret hQ C rfl d_Md_deliver_254 (by omega) (by omega) (Or.inr (Or.inr ⟨c_14, i, rfl, Or.inr ⟨c_83, rfl, q, f, c, eq, hf, hc, G', hwk, hw⟩⟩))
            · have hi2 : i < m := Nat.lt_of_not_le (fun z => c_116 ((nI_leI (by omega) (by omega)).mpr (by omega)))
              refine v_aload_n C (i := 0) d_Md_deliver_119 rfl rfl ?_
              refine v_get C (v := .ref (ad 10)) in_Md h.o cl_Md 13 (by decide) w_384 rfl rfl d_Md_deliver_120 ?_
              refine v_iload C (i := 9) d_Md_deliver_123 rfl ?_
              refine v_aload_n C (i := 0) d_Md_deliver_125 rfl rfl ?_
              refine v_get C (v := .ref (ad 10)) in_Md h.o cl_Md 13 (by decide) w_384 rfl rfl d_Md_deliver_126 ?_
              refine v_iload C (i := 9) d_Md_deliver_129 rfl ?_
              refine v_iconst C (v := 1) d_Md_deliver_131 (by decide) ?_
              refine v_iadd C d_Md_deliver_132 ?_
              refine V.eqst (st' := [.int (nI (0 + i + 1)), .ref (ad 10), .int (nI (0 + i)), .ref (ad 10)]) (by rw [nI_1]) ?_
              refine v_iald C (N := 128) (f := shb (Gd.T 10) 0 i) 0 (h.a 10 (by decide) (by decide)) rfl (pk_in (0 + i + 1) 128 (by omega)) d_Md_deliver_133 ?_
              refine V.eqst (st' := [.int ((shb (Gd.T 10) 0 i) (0 + i + 1)), .int (nI (0 + i)), .ref (ad 10)]) (by rw [show Int32.toNatClampNeg (nI (0 + i + 1)) = 0 + i + 1 from pk_cl _ (hx := rfl)]) ?_
              refine V.eqst (st' := [.int (Gd.T 10 (0 + i + 1)), .int (nI (0 + i)), .ref (ad 10)]) (by rw [shb_at]) ?_
              refine v_iast C (N := 128) (f := shb (Gd.T 10) 0 i) 0 (h.a 10 (by decide) (by decide)) rfl (pk_in (0 + i) 128 (by omega)) d_Md_deliver_134 ?_
              rw [show Int32.toNatClampNeg (nI (0 + i)) = 0 + i from pk_cl _ (hx := rfl)]
              have h : R2 cI cZ (mset M (ad 10) (aI cI 128 (upd (shb (Gd.T 10) 0 i) (0 + i) (Gd.T 10 (0 + i + 1))))) ad ((Gd.shf6 0 i).sT 10 (upd (shb (Gd.T 10) 0 i) (0 + i) (Gd.T 10 (0 + i + 1)))) := h.pa 10 (by decide) (by decide) (upd (shb (Gd.T 10) 0 i) (0 + i) (Gd.T 10 (0 + i + 1)))
              revert h
              generalize mset M (ad 10) (aI cI 128 (upd (shb (Gd.T 10) 0 i) (0 + i) (Gd.T 10 (0 + i + 1)))) = M
              intro h
              refine v_aload_n C (i := 0) d_Md_deliver_135 rfl rfl ?_
              refine v_get C (v := .ref (ad 11)) in_Md h.o cl_Md 14 (by decide) w_385 rfl rfl d_Md_deliver_136 ?_
              refine v_iload C (i := 9) d_Md_deliver_139 rfl ?_
              refine v_aload_n C (i := 0) d_Md_deliver_141 rfl rfl ?_
              refine v_get C (v := .ref (ad 11)) in_Md h.o cl_Md 14 (by decide) w_385 rfl rfl d_Md_deliver_142 ?_
              refine v_iload C (i := 9) d_Md_deliver_145 rfl ?_
              refine v_iconst C (v := 1) d_Md_deliver_147 (by decide) ?_
              refine v_iadd C d_Md_deliver_148 ?_
              refine V.eqst (st' := [.int (nI (0 + i + 1)), .ref (ad 11), .int (nI (0 + i)), .ref (ad 11)]) (by rw [nI_1]) ?_
              refine v_iald C (N := 128) (f := shb (Gd.T 11) 0 i) 0 (h.a 11 (by decide) (by decide)) rfl (pk_in (0 + i + 1) 128 (by omega)) d_Md_deliver_149 ?_
              refine V.eqst (st' := [.int ((shb (Gd.T 11) 0 i) (0 + i + 1)), .int (nI (0 + i)), .ref (ad 11)]) (by rw [show Int32.toNatClampNeg (nI (0 + i + 1)) = 0 + i + 1 from pk_cl _ (hx := rfl)]) ?_
              refine V.eqst (st' := [.int (Gd.T 11 (0 + i + 1)), .int (nI (0 + i)), .ref (ad 11)]) (by rw [shb_at]) ?_
              refine v_iast C (N := 128) (f := shb (Gd.T 11) 0 i) 0 (h.a 11 (by decide) (by decide)) rfl (pk_in (0 + i) 128 (by omega)) d_Md_deliver_150 ?_
              rw [show Int32.toNatClampNeg (nI (0 + i)) = 0 + i from pk_cl _ (hx := rfl)]
              have h : R2 cI cZ (mset M (ad 11) (aI cI 128 (upd (shb (Gd.T 11) 0 i) (0 + i) (Gd.T 11 (0 + i + 1))))) ad (((Gd.shf6 0 i).sT 10 (upd (shb (Gd.T 10) 0 i) (0 + i) (Gd.T 10 (0 + i + 1)))).sT 11 (upd (shb (Gd.T 11) 0 i) (0 + i) (Gd.T 11 (0 + i + 1)))) := h.pa 11 (by decide) (by decide) (upd (shb (Gd.T 11) 0 i) (0 + i) (Gd.T 11 (0 + i + 1)))
              revert h
              generalize mset M (ad 11) (aI cI 128 (upd (shb (Gd.T 11) 0 i) (0 + i) (Gd.T 11 (0 + i + 1)))) = M
              intro h
              refine v_aload_n C (i := 0) d_Md_deliver_151 rfl rfl ?_
              refine v_get C (v := .ref (ad 12)) in_Md h.o cl_Md 15 (by decide) w_386 rfl rfl d_Md_deliver_152 ?_
              refine v_iload C (i := 9) d_Md_deliver_155 rfl ?_
              refine v_aload_n C (i := 0) d_Md_deliver_157 rfl rfl ?_
              refine v_get C (v := .ref (ad 12)) in_Md h.o cl_Md 15 (by decide) w_386 rfl rfl d_Md_deliver_158 ?_
              refine v_iload C (i := 9) d_Md_deliver_161 rfl ?_
              refine v_iconst C (v := 1) d_Md_deliver_163 (by decide) ?_
              refine v_iadd C d_Md_deliver_164 ?_
              refine V.eqst (st' := [.int (nI (0 + i + 1)), .ref (ad 12), .int (nI (0 + i)), .ref (ad 12)]) (by rw [nI_1]) ?_
              refine v_iald C (N := 128) (f := shb (Gd.T 12) 0 i) 0 (h.a 12 (by decide) (by decide)) rfl (pk_in (0 + i + 1) 128 (by omega)) d_Md_deliver_165 ?_
              refine V.eqst (st' := [.int ((shb (Gd.T 12) 0 i) (0 + i + 1)), .int (nI (0 + i)), .ref (ad 12)]) (by rw [show Int32.toNatClampNeg (nI (0 + i + 1)) = 0 + i + 1 from pk_cl _ (hx := rfl)]) ?_
              refine V.eqst (st' := [.int (Gd.T 12 (0 + i + 1)), .int (nI (0 + i)), .ref (ad 12)]) (by rw [shb_at]) ?_
              refine v_iast C (N := 128) (f := shb (Gd.T 12) 0 i) 0 (h.a 12 (by decide) (by decide)) rfl (pk_in (0 + i) 128 (by omega)) d_Md_deliver_166 ?_
              rw [show Int32.toNatClampNeg (nI (0 + i)) = 0 + i from pk_cl _ (hx := rfl)]
              have h : R2 cI cZ (mset M (ad 12) (aI cI 128 (upd (shb (Gd.T 12) 0 i) (0 + i) (Gd.T 12 (0 + i + 1))))) ad ((((Gd.shf6 0 i).sT 10 (upd (shb (Gd.T 10) 0 i) (0 + i) (Gd.T 10 (0 + i + 1)))).sT 11 (upd (shb (Gd.T 11) 0 i) (0 + i) (Gd.T 11 (0 + i + 1)))).sT 12 (upd (shb (Gd.T 12) 0 i) (0 + i) (Gd.T 12 (0 + i + 1)))) := h.pa 12 (by decide) (by decide) (upd (shb (Gd.T 12) 0 i) (0 + i) (Gd.T 12 (0 + i + 1)))
              revert h
              generalize mset M (ad 12) (aI cI 128 (upd (shb (Gd.T 12) 0 i) (0 + i) (Gd.T 12 (0 + i + 1)))) = M
              intro h
              refine v_aload_n C (i := 0) d_Md_deliver_167 rfl rfl ?_
              refine v_get C (v := .ref (ad 13)) in_Md h.o cl_Md 16 (by decide) w_387 rfl rfl d_Md_deliver_168 ?_
              refine v_iload C (i := 9) d_Md_deliver_171 rfl ?_
              refine v_aload_n C (i := 0) d_Md_deliver_173 rfl rfl ?_
              refine v_get C (v := .ref (ad 13)) in_Md h.o cl_Md 16 (by decide) w_387 rfl rfl d_Md_deliver_174 ?_
              refine v_iload C (i := 9) d_Md_deliver_177 rfl ?_
              refine v_iconst C (v := 1) d_Md_deliver_179 (by decide) ?_
              refine v_iadd C d_Md_deliver_180 ?_
              refine V.eqst (st' := [.int (nI (0 + i + 1)), .ref (ad 13), .int (nI (0 + i)), .ref (ad 13)]) (by rw [nI_1]) ?_
              refine v_iald C (N := 128) (f := shb (Gd.T 13) 0 i) 0 (h.a 13 (by decide) (by decide)) rfl (pk_in (0 + i + 1) 128 (by omega)) d_Md_deliver_181 ?_
              refine V.eqst (st' := [.int ((shb (Gd.T 13) 0 i) (0 + i + 1)), .int (nI (0 + i)), .ref (ad 13)]) (by rw [show Int32.toNatClampNeg (nI (0 + i + 1)) = 0 + i + 1 from pk_cl _ (hx := rfl)]) ?_
              refine V.eqst (st' := [.int (Gd.T 13 (0 + i + 1)), .int (nI (0 + i)), .ref (ad 13)]) (by rw [shb_at]) ?_
              refine v_iast C (N := 128) (f := shb (Gd.T 13) 0 i) 0 (h.a 13 (by decide) (by decide)) rfl (pk_in (0 + i) 128 (by omega)) d_Md_deliver_182 ?_
              rw [show Int32.toNatClampNeg (nI (0 + i)) = 0 + i from pk_cl _ (hx := rfl)]
              have h : R2 cI cZ (mset M (ad 13) (aI cI 128 (upd (shb (Gd.T 13) 0 i) (0 + i) (Gd.T 13 (0 + i + 1))))) ad (((((Gd.shf6 0 i).sT 10 (upd (shb (Gd.T 10) 0 i) (0 + i) (Gd.T 10 (0 + i + 1)))).sT 11 (upd (shb (Gd.T 11) 0 i) (0 + i) (Gd.T 11 (0 + i + 1)))).sT 12 (upd (shb (Gd.T 12) 0 i) (0 + i) (Gd.T 12 (0 + i + 1)))).sT 13 (upd (shb (Gd.T 13) 0 i) (0 + i) (Gd.T 13 (0 + i + 1)))) := h.pa 13 (by decide) (by decide) (upd (shb (Gd.T 13) 0 i) (0 + i) (Gd.T 13 (0 + i + 1)))
              revert h
              generalize mset M (ad 13) (aI cI 128 (upd (shb (Gd.T 13) 0 i) (0 + i) (Gd.T 13 (0 + i + 1)))) = M
              intro h
              refine v_aload_n C (i := 0) d_Md_deliver_183 rfl rfl ?_
              refine v_get C (v := .ref (ad 14)) in_Md h.o cl_Md 17 (by decide) w_388 rfl rfl d_Md_deliver_184 ?_
              refine v_iload C (i := 9) d_Md_deliver_187 rfl ?_
              refine v_aload_n C (i := 0) d_Md_deliver_189 rfl rfl ?_
              refine v_get C (v := .ref (ad 14)) in_Md h.o cl_Md 17 (by decide) w_388 rfl rfl d_Md_deliver_190 ?_
              refine v_iload C (i := 9) d_Md_deliver_193 rfl ?_
              refine v_iconst C (v := 1) d_Md_deliver_195 (by decide) ?_
              refine v_iadd C d_Md_deliver_196 ?_
              refine V.eqst (st' := [.int (nI (0 + i + 1)), .ref (ad 14), .int (nI (0 + i)), .ref (ad 14)]) (by rw [nI_1]) ?_
              refine v_iald C (N := 128) (f := shb (Gd.T 14) 0 i) 0 (h.a 14 (by decide) (by decide)) rfl (pk_in (0 + i + 1) 128 (by omega)) d_Md_deliver_197 ?_
              refine V.eqst (st' := [.int ((shb (Gd.T 14) 0 i) (0 + i + 1)), .int (nI (0 + i)), .ref (ad 14)]) (by rw [show Int32.toNatClampNeg (nI (0 + i + 1)) = 0 + i + 1 from pk_cl _ (hx := rfl)]) ?_
              refine V.eqst (st' := [.int (Gd.T 14 (0 + i + 1)), .int (nI (0 + i)), .ref (ad 14)]) (by rw [shb_at]) ?_
              refine v_iast C (N := 128) (f := shb (Gd.T 14) 0 i) 0 (h.a 14 (by decide) (by decide)) rfl (pk_in (0 + i) 128 (by omega)) d_Md_deliver_198 ?_
              rw [show Int32.toNatClampNeg (nI (0 + i)) = 0 + i from pk_cl _ (hx := rfl)]
              have h : R2 cI cZ (mset M (ad 14) (aI cI 128 (upd (shb (Gd.T 14) 0 i) (0 + i) (Gd.T 14 (0 + i + 1))))) ad ((((((Gd.shf6 0 i).sT 10 (upd (shb (Gd.T 10) 0 i) (0 + i) (Gd.T 10 (0 + i + 1)))).sT 11 (upd (shb (Gd.T 11) 0 i) (0 + i) (Gd.T 11 (0 + i + 1)))).sT 12 (upd (shb (Gd.T 12) 0 i) (0 + i) (Gd.T 12 (0 + i + 1)))).sT 13 (upd (shb (Gd.T 13) 0 i) (0 + i) (Gd.T 13 (0 + i + 1)))).sT 14 (upd (shb (Gd.T 14) 0 i) (0 + i) (Gd.T 14 (0 + i + 1)))) := h.pa 14 (by decide) (by decide) (upd (shb (Gd.T 14) 0 i) (0 + i) (Gd.T 14 (0 + i + 1)))
              revert h
              generalize mset M (ad 14) (aI cI 128 (upd (shb (Gd.T 14) 0 i) (0 + i) (Gd.T 14 (0 + i + 1)))) = M
              intro h
              refine v_aload_n C (i := 0) d_Md_deliver_199 rfl rfl ?_
              refine v_get C (v := .ref (ad 15)) in_Md h.o cl_Md 18 (by decide) w_389 rfl rfl d_Md_deliver_200 ?_
              refine v_iload C (i := 9) d_Md_deliver_203 rfl ?_
              refine v_aload_n C (i := 0) d_Md_deliver_205 rfl rfl ?_
              refine v_get C (v := .ref (ad 15)) in_Md h.o cl_Md 18 (by decide) w_389 rfl rfl d_Md_deliver_206 ?_
              refine v_iload C (i := 9) d_Md_deliver_209 rfl ?_
              refine v_iconst C (v := 1) d_Md_deliver_211 (by decide) ?_
              refine v_iadd C d_Md_deliver_212 ?_
              refine V.eqst (st' := [.int (nI (0 + i + 1)), .ref (ad 15), .int (nI (0 + i)), .ref (ad 15)]) (by rw [nI_1]) ?_
              refine v_zald C (N := 128) (f := shb (Gd.T 15) 0 i) 1 h.z rfl (pk_in (0 + i + 1) 128 (by omega)) d_Md_deliver_213 ?_
              refine V.eqst (st' := [.int ((shb (Gd.T 15) 0 i) (0 + i + 1)), .int (nI (0 + i)), .ref (ad 15)]) (by rw [show Int32.toNatClampNeg (nI (0 + i + 1)) = 0 + i + 1 from pk_cl _ (hx := rfl)]) ?_
              refine V.eqst (st' := [.int (Gd.T 15 (0 + i + 1)), .int (nI (0 + i)), .ref (ad 15)]) (by rw [shb_at]) ?_
              refine v_zast C (N := 128) (f := shb (Gd.T 15) 0 i) 1 h.z rfl (pk_in (0 + i) 128 (by omega)) (y := (Gd.T 15 (0 + i + 1))) (nar01 (hzd _)) d_Md_deliver_214 ?_
              rw [show Int32.toNatClampNeg (nI (0 + i)) = 0 + i from pk_cl _ (hx := rfl)]
              have h : R2 cI cZ (mset M (ad 15) (aI cZ 128 (upd (shb (Gd.T 15) 0 i) (0 + i) (Gd.T 15 (0 + i + 1))))) ad (((((((Gd.shf6 0 i).sT 10 (upd (shb (Gd.T 10) 0 i) (0 + i) (Gd.T 10 (0 + i + 1)))).sT 11 (upd (shb (Gd.T 11) 0 i) (0 + i) (Gd.T 11 (0 + i + 1)))).sT 12 (upd (shb (Gd.T 12) 0 i) (0 + i) (Gd.T 12 (0 + i + 1)))).sT 13 (upd (shb (Gd.T 13) 0 i) (0 + i) (Gd.T 13 (0 + i + 1)))).sT 14 (upd (shb (Gd.T 14) 0 i) (0 + i) (Gd.T 14 (0 + i + 1)))).sT 15 (upd (shb (Gd.T 15) 0 i) (0 + i) (Gd.T 15 (0 + i + 1)))) := h.pa 15 (by decide) (by decide) (upd (shb (Gd.T 15) 0 i) (0 + i) (Gd.T 15 (0 + i + 1)))
              revert h
              generalize mset M (ad 15) (aI cZ 128 (upd (shb (Gd.T 15) 0 i) (0 + i) (Gd.T 15 (0 + i + 1)))) = M
              intro h
              refine v_iinc C (i := 9) (j := 0) (v := nI (0 + (i + 1))) (lv' := [(9, .int (nI (0 + (i + 1)))), (8, .int (G.T 14 0)), (7, .int (G.T 13 0)), (6, .int (G.T 12 0)), (5, .int (G.T 11 0)), (4, .int (G.T 10 0)), (3, .int (nI 0)), (2, .int 0), (0, .ref (ad 0)), (1, .int u)]) d_Md_deliver_215 rfl (nI_1 _) (by decide) rfl ?_
              refine v_goto C 106 d_Md_deliver_218 (by decide) ?_
              rw [shf6_s] at h
              refine V.pick (lv' := [(9, .int (nI (0 + (i + 1)))), (8, .int (G.T 14 0)), (7, .int (G.T 13 0)), (6, .int (G.T 12 0)), (5, .int (G.T 11 0)), (4, .int (G.T 10 0)), (3, .int (nI 0)), (2, .int 0), (0, .ref (ad 0)), (1, .int u)]) [0, 1, 2, 3, 4, 5, 6, 7, 8, 9] rfl ?_
              exact ih (i + 1) M (by omega) (by omega) h
        refine V.pick (lv' := [(9, .int (nI 0)), (8, .int (G.T 14 0)), (7, .int (G.T 13 0)), (6, .int (G.T 12 0)), (5, .int (G.T 11 0)), (4, .int (G.T 10 0)), (3, .int (nI 0)), (2, .int 0), (0, .ref (ad 0)), (1, .int u)]) [0, 1, 2, 3, 4, 5, 6, 7, 8, 9] rfl ?_
        refine V.pick (lv' := [(9, .int (nI (0 + 0))), (8, .int (G.T 14 0)), (7, .int (G.T 13 0)), (6, .int (G.T 12 0)), (5, .int (G.T 11 0)), (4, .int (G.T 10 0)), (3, .int (nI 0)), (2, .int 0), (0, .ref (ad 0)), (1, .int u)]) [0, 1, 2, 3, 4, 5, 6, 7, 8, 9] rfl ?_
        refine L (m + 1) 0 M (by omega) (by omega) ?_
        rw [shf6_0]
        exact h
      · refine v_aload_n C (i := 0) d_Md_deliver_86 rfl rfl ?_
        refine v_callV C (As := []) (rest := []) h.o cl_Md rfl w_494 wp_21 (ct_Md_end h n hn hn120) (Nat.le_of_ble_eq_true rfl) (Nat.le_of_ble_eq_true rfl) w_495 w_6 hy_Md_end w_492 rfl (Nat.le_of_ble_eq_true rfl) ⟨by decide, by decide⟩ d_Md_deliver_87 (fun rv M hp => ?_)
        obtain ⟨rfl, hw⟩ := hp
        refine V.eqst (st' := []) rfl (V.cs (k' := 0) (n' := 0) rfl rfl ?_)
        refine v_bipush C (v := (-5)) d_Md_deliver_90 (by decide) ?_
        exact v_iret hQ C rfl d_Md_deliver_92 (by omega) (by omega) (Or.inr (Or.inr ⟨c_14, m, rfl, Or.inl ⟨c_83, rfl, hw⟩⟩))
    · have hz0 : su = 0 := Classical.byContradiction fun z => nI_ne0 (Nat.pos_of_ne_zero z) (by omega) c_26
      refine v_bipush C (v := (-3)) d_Md_deliver_29 (by decide) ?_
      exact v_iret hQ C rfl d_Md_deliver_31 (by omega) (by omega) (Or.inr (Or.inl ⟨c_14, hz0, rfl, h⟩))
  · refine v_bipush C (v := (-4)) d_Md_deliver_17 (by decide) ?_
    exact v_iret hQ C rfl d_Md_deliver_19 (by omega) (by omega) (Or.inl ⟨c_14, rfl, h⟩)
set_option maxHeartbeats 4000000 in
set_option maxRecDepth 100000 in
theorem ct_Md_deliverD {D : va_G} {l : Launch} {cI cZ cR cM : ClassId} {M : Mem} {ad : Nat → Nat} {G : G2} (h : R2 cI cZ M ad G) (u : Int32) (hu : u = 0) (n : Nat) (hn : G.I 3 = nI n) (hn120 : n ≤ 120) (su sd : Nat) (hsu : su < 60) (hsd : sd < 60) (hs0 : G.T 16 0 = nI su) (hs1 : G.T 16 1 = nI sd) (hz : ∀ j, G.T 15 j = 0 ∨ G.T 15 j = 1) (hq : 0 < sd → ∃ q, G.T 10 64 = nI q ∧ q < 120 ∧ (G.T 11 64 = 3 → ∃ k, G.T 12 64 = nI k ∧ k < 3)) : Ct TT D cls (tyL cI cZ cR cM) l y_Md_deliver b_Md_deliver 10 (some .int) 5 115 0 0 [.ref (ad 0), .int u] M (fun rv M' => (G.I 4 = 0 ∧ rv = some (.int (-4)) ∧ R2 cI cZ M' ad G) ∨ (¬ G.I 4 = 0 ∧ sd = 0 ∧ rv = some (.int (-3)) ∧ R2 cI cZ M' ad G) ∨ (¬ G.I 4 = 0 ∧ ∃ m, sd = m + 1 ∧ ((¬ G.T 15 64 = 0 ∧ rv = some (.int (-5)) ∧ R2 cI cZ M' ad (G.end_ n)) ∨ (G.T 15 64 = 0 ∧ rv = some (.int (G.T 11 64)) ∧ ∃ (q k : Nat), G.T 10 64 = nI q ∧ (G.T 11 64 = 3 → G.T 12 64 = nI k) ∧ R2 cI cZ M' ad (((((G.dlv 1 m).cr (G.T 14 64)).asF q su (G.T 11 64) (G.T 12 64)).pcF q k (G.T 11 64) (G.T 13 64)).tk4 q (G.T 11 64)))))) := by
  refine ct_of "BlockTargetSessionModel" rfl (by decide) (Nat.le_of_ble_eq_true rfl) ?_
  intro Z hl hD hnm hQ C
  subst hl
  subst hD
  show V cls 10 (rmOf 5 115 0 0) Z 0 [(0, .ref (ad 0)), (1, .int u)] [] M 0 0
  refine v_iload_n C (i := 1) d_Md_deliver_0 rfl rfl ?_
  refine v_if_eq C 8 d_Md_deliver_1 (by decide) (fun c_1 => ?_) (fun c_1 => absurd (hu) c_1)
  refine v_iconst C (v := 1) d_Md_deliver_8 (by decide) ?_
  refine v_istore_n C (i := 2) (lv' := [(2, .int 1), (0, .ref (ad 0)), (1, .int u)]) d_Md_deliver_9 rfl (by decide) rfl ?_
  refine v_aload_n C (i := 0) d_Md_deliver_10 rfl rfl ?_
  refine v_get C (v := .int (G.I 4)) in_Md h.o cl_Md 20 (by decide) w_391 rfl rfl d_Md_deliver_11 ?_
  refine v_if_ne C 20 d_Md_deliver_14 (by decide) (fun c_14 => ?_) (fun c_14 => ?_)
  · refine v_aload_n C (i := 0) d_Md_deliver_20 rfl rfl ?_
    refine v_get C (v := .ref (ad 16)) in_Md h.o cl_Md 19 (by decide) w_390 rfl rfl d_Md_deliver_21 ?_
    refine v_iload_n C (i := 2) d_Md_deliver_24 rfl rfl ?_
    refine v_iald C (N := 2) (f := G.T 16) 0 h.hd rfl (pk_in 1 2 (by decide) (by decide)) d_Md_deliver_25 ?_
    refine V.eqst (st' := [.int (G.T 16 1)]) (by rw [show Int32.toNatClampNeg 1 = 1 from pk_cl _ (hx := by decide)]) ?_
    refine V.eqst (st' := [.int (nI sd)]) (by rw [hs1]) ?_
    refine v_if_ne C 32 d_Md_deliver_26 (by decide) (fun c_26 => ?_) (fun c_26 => ?_)
    · obtain ⟨m, rfl⟩ : ∃ m, sd = m + 1 := ⟨sd - 1, by have : sd ≠ 0 := fun z => c_26 (by rw [z]; exact nI_0); omega⟩
      refine v_iload_n C (i := 2) d_Md_deliver_32 rfl rfl ?_
      refine v_bipush C (v := 64) d_Md_deliver_33 (by decide) ?_
      refine v_imul C d_Md_deliver_35 ?_
      refine V.eqst (st' := [.int (nI 64)]) (by rw [show (1 : Int32) * 64 = nI 64 from by decide]) ?_
      refine v_istore_n C (i := 3) (lv' := [(3, .int (nI 64)), (2, .int 1), (0, .ref (ad 0)), (1, .int u)]) d_Md_deliver_36 rfl (by decide) rfl ?_
      refine v_aload_n C (i := 0) d_Md_deliver_37 rfl rfl ?_
      refine v_get C (v := .ref (ad 10)) in_Md h.o cl_Md 13 (by decide) w_384 rfl rfl d_Md_deliver_38 ?_
      refine v_iload_n C (i := 3) d_Md_deliver_41 rfl rfl ?_
      refine v_iald C (N := 128) (f := G.T 10) 0 (h.a 10 (by decide) (by decide)) rfl (pk_in 64 128 (by decide)) d_Md_deliver_42 ?_
      refine V.eqst (st' := [.int (G.T 10 64)]) (by rw [show Int32.toNatClampNeg (nI 64) = 64 from pk_cl _ (hx := rfl)]) ?_
      refine v_istore C (i := 4) (lv' := [(4, .int (G.T 10 64)), (3, .int (nI 64)), (2, .int 1), (0, .ref (ad 0)), (1, .int u)]) d_Md_deliver_43 (by decide) rfl ?_
      refine v_aload_n C (i := 0) d_Md_deliver_45 rfl rfl ?_
      refine v_get C (v := .ref (ad 11)) in_Md h.o cl_Md 14 (by decide) w_385 rfl rfl d_Md_deliver_46 ?_
      refine v_iload_n C (i := 3) d_Md_deliver_49 rfl rfl ?_
      refine v_iald C (N := 128) (f := G.T 11) 0 (h.a 11 (by decide) (by decide)) rfl (pk_in 64 128 (by decide)) d_Md_deliver_50 ?_
      refine V.eqst (st' := [.int (G.T 11 64)]) (by rw [show Int32.toNatClampNeg (nI 64) = 64 from pk_cl _ (hx := rfl)]) ?_
      refine v_istore C (i := 5) (lv' := [(5, .int (G.T 11 64)), (4, .int (G.T 10 64)), (3, .int (nI 64)), (2, .int 1), (0, .ref (ad 0)), (1, .int u)]) d_Md_deliver_51 (by decide) rfl ?_
      refine v_aload_n C (i := 0) d_Md_deliver_53 rfl rfl ?_
      refine v_get C (v := .ref (ad 12)) in_Md h.o cl_Md 15 (by decide) w_386 rfl rfl d_Md_deliver_54 ?_
      refine v_iload_n C (i := 3) d_Md_deliver_57 rfl rfl ?_
      refine v_iald C (N := 128) (f := G.T 12) 0 (h.a 12 (by decide) (by decide)) rfl (pk_in 64 128 (by decide)) d_Md_deliver_58 ?_
      refine V.eqst (st' := [.int (G.T 12 64)]) (by rw [show Int32.toNatClampNeg (nI 64) = 64 from pk_cl _ (hx := rfl)]) ?_
      refine v_istore C (i := 6) (lv' := [(6, .int (G.T 12 64)), (5, .int (G.T 11 64)), (4, .int (G.T 10 64)), (3, .int (nI 64)), (2, .int 1), (0, .ref (ad 0)), (1, .int u)]) d_Md_deliver_59 (by decide) rfl ?_
      refine v_aload_n C (i := 0) d_Md_deliver_61 rfl rfl ?_
      refine v_get C (v := .ref (ad 13)) in_Md h.o cl_Md 16 (by decide) w_387 rfl rfl d_Md_deliver_62 ?_
      refine v_iload_n C (i := 3) d_Md_deliver_65 rfl rfl ?_
      refine v_iald C (N := 128) (f := G.T 13) 0 (h.a 13 (by decide) (by decide)) rfl (pk_in 64 128 (by decide)) d_Md_deliver_66 ?_
      refine V.eqst (st' := [.int (G.T 13 64)]) (by rw [show Int32.toNatClampNeg (nI 64) = 64 from pk_cl _ (hx := rfl)]) ?_
      refine v_istore C (i := 7) (lv' := [(7, .int (G.T 13 64)), (6, .int (G.T 12 64)), (5, .int (G.T 11 64)), (4, .int (G.T 10 64)), (3, .int (nI 64)), (2, .int 1), (0, .ref (ad 0)), (1, .int u)]) d_Md_deliver_67 (by decide) rfl ?_
      refine v_aload_n C (i := 0) d_Md_deliver_69 rfl rfl ?_
      refine v_get C (v := .ref (ad 14)) in_Md h.o cl_Md 17 (by decide) w_388 rfl rfl d_Md_deliver_70 ?_
      refine v_iload_n C (i := 3) d_Md_deliver_73 rfl rfl ?_
      refine v_iald C (N := 128) (f := G.T 14) 0 (h.a 14 (by decide) (by decide)) rfl (pk_in 64 128 (by decide)) d_Md_deliver_74 ?_
      refine V.eqst (st' := [.int (G.T 14 64)]) (by rw [show Int32.toNatClampNeg (nI 64) = 64 from pk_cl _ (hx := rfl)]) ?_
      refine v_istore C (i := 8) (lv' := [(8, .int (G.T 14 64)), (7, .int (G.T 13 64)), (6, .int (G.T 12 64)), (5, .int (G.T 11 64)), (4, .int (G.T 10 64)), (3, .int (nI 64)), (2, .int 1), (0, .ref (ad 0)), (1, .int u)]) d_Md_deliver_75 (by decide) rfl ?_
      refine v_aload_n C (i := 0) d_Md_deliver_77 rfl rfl ?_
      refine v_get C (v := .ref (ad 15)) in_Md h.o cl_Md 18 (by decide) w_389 rfl rfl d_Md_deliver_78 ?_
      refine v_iload_n C (i := 3) d_Md_deliver_81 rfl rfl ?_
      refine v_zald C (N := 128) (f := G.T 15) 1 h.z rfl (pk_in 64 128 (by decide)) d_Md_deliver_82 ?_
      refine V.eqst (st' := [.int (G.T 15 64)]) (by rw [show Int32.toNatClampNeg (nI 64) = 64 from pk_cl _ (hx := rfl)]) ?_
      refine v_if_eq C 93 d_Md_deliver_83 (by decide) (fun c_83 => ?_) (fun c_83 => ?_)
      · refine v_aload_n C (i := 0) d_Md_deliver_93 rfl rfl ?_
        refine v_get C (v := .ref (ad 16)) in_Md h.o cl_Md 19 (by decide) w_390 rfl rfl d_Md_deliver_94 ?_
        refine v_iload_n C (i := 2) d_Md_deliver_97 rfl rfl ?_
        refine v_dup2_11 C d_Md_deliver_98 rfl rfl ?_
        refine v_iald C (N := 2) (f := G.T 16) 0 h.hd rfl (pk_in 1 2 (by decide) (by decide)) d_Md_deliver_99 ?_
        refine V.eqst (st' := [.int (G.T 16 1), .int 1, .ref (ad 16)]) (by rw [show Int32.toNatClampNeg 1 = 1 from pk_cl _ (hx := by decide)]) ?_
        refine V.eqst (st' := [.int (nI (m + 1)), .int 1, .ref (ad 16)]) (by rw [hs1]) ?_
        refine v_iconst C (v := 1) d_Md_deliver_100 (by decide) ?_
        refine v_isub C d_Md_deliver_101 ?_
        refine V.eqst (st' := [.int (nI m), .int 1, .ref (ad 16)]) (by rw [nI_pred]) ?_
        refine v_iast C (N := 2) (f := G.T 16) 0 h.hd rfl (pk_in 1 2 (by decide) (by decide)) d_Md_deliver_102 ?_
        rw [show Int32.toNatClampNeg 1 = 1 from pk_cl _ (hx := by decide)]
        have h : R2 cI cZ (mset M (ad 16) (aI cI 2 (upd (G.T 16) 1 (nI m)))) ad (G.sT 16 (upd (G.T 16) 1 (nI m))) := h.pa 16 (by decide) (by decide) (upd (G.T 16) 1 (nI m))
        revert h
        generalize mset M (ad 16) (aI cI 2 (upd (G.T 16) 1 (nI m))) = M
        intro h
        refine v_iload_n C (i := 3) d_Md_deliver_103 rfl rfl ?_
        refine v_istore C (i := 9) (lv' := [(9, .int (nI 64)), (8, .int (G.T 14 64)), (7, .int (G.T 13 64)), (6, .int (G.T 12 64)), (5, .int (G.T 11 64)), (4, .int (G.T 10 64)), (3, .int (nI 64)), (2, .int 1), (0, .ref (ad 0)), (1, .int u)]) d_Md_deliver_104 (by decide) rfl ?_
        obtain ⟨Gd, hGd⟩ : ∃ Gd, Gd = (G.sT 16 (upd (G.T 16) 1 (nI m))) := ⟨_, rfl⟩
        rw [← hGd] at h
        have e16 : Gd.T 16 1 = nI m := by rw [hGd, sT2_at, pk_us]
        have hzd : ∀ j, Gd.T 15 j = 0 ∨ Gd.T 15 j = 1 := by intro j; rw [hGd, sT2_ne _ _ _ _ (by decide)]; exact hz j
        have L : ∀ (fu i : Nat) (M : Mem), m - i < fu → i ≤ m → R2 cI cZ M ad (Gd.shf6 64 i) → V cls 10 (rmOf 5 115 0 0) Z 106 [(9, .int (nI (64 + i))), (8, .int (G.T 14 64)), (7, .int (G.T 13 64)), (6, .int (G.T 12 64)), (5, .int (G.T 11 64)), (4, .int (G.T 10 64)), (3, .int (nI 64)), (2, .int 1), (0, .ref (ad 0)), (1, .int u)] [] M 0 0 := by
          intro fu
          induction fu with
          | zero => intro i M hf; omega
          | succ fu ih =>
            intro i M hf hi h
            refine v_iload C (i := 9) d_Md_deliver_106 rfl ?_
            refine v_iload_n C (i := 3) d_Md_deliver_108 rfl rfl ?_
            refine v_aload_n C (i := 0) d_Md_deliver_109 rfl rfl ?_
            refine v_get C (v := .ref (ad 16)) in_Md h.o cl_Md 19 (by decide) w_390 rfl rfl d_Md_deliver_110 ?_
            refine v_iload_n C (i := 2) d_Md_deliver_113 rfl rfl ?_
            refine v_iald C (N := 2) (f := Gd.T 16) 0 h.hd rfl (pk_in 1 2 (by decide) (by decide)) d_Md_deliver_114 ?_
            refine V.eqst (st' := [.int (Gd.T 16 1), .int (nI 64), .int (nI (64 + i))]) (by rw [show Int32.toNatClampNeg 1 = 1 from pk_cl _ (hx := by decide)]) ?_
            refine V.eqst (st' := [.int (nI m), .int (nI 64), .int (nI (64 + i))]) (by rw [e16]) ?_
            refine v_iadd C d_Md_deliver_115 ?_
            refine V.eqst (st' := [.int (nI (64 + m)), .int (nI (64 + i))]) (by rw [nI_add]) ?_
            refine v_icmp_ge C 221 d_Md_deliver_116 (by decide) (fun c_116 => ?_) (fun c_116 => ?_)
            · have hi2 : i = m := Nat.le_antisymm hi (by have := (nI_leI (by omega) (by omega)).mp c_116; omega)
              subst hi2
              obtain ⟨q, eq, hq, hpc⟩ := hq (by omega)
              refine V.pick (lv' := [(9, .int (nI (64 + i))), (8, .int (G.T 14 64)), (7, .int (G.T 13 64)), (6, .int (G.T 12 64)), (5, .int (G.T 11 64)), (4, .int (nI q)), (3, .int (nI 64)), (2, .int 1), (0, .ref (ad 0)), (1, .int u)]) [0, 1, 2, 3, 4, 5, 6, 7, 8, 9] (by rw [← eq]; rfl) ?_
              have h : R2 cI cZ M ad (G.dlv 1 i) := by rw [hGd] at h; exact h
              refine v_iload_n C (i := 1) d_Md_deliver_221 rfl rfl ?_
              refine v_if_eq C 238 d_Md_deliver_222 (by decide) (fun c_222 => ?_) (fun c_222 => absurd (hu) c_222)
              refine v_aload_n C (i := 0) d_Md_deliver_238 rfl rfl ?_
              refine v_iload C (i := 4) d_Md_deliver_239 rfl ?_
              refine v_iload C (i := 5) d_Md_deliver_241 rfl ?_
              refine v_iload C (i := 6) d_Md_deliver_243 rfl ?_
              refine v_iload C (i := 7) d_Md_deliver_245 rfl ?_
              refine v_iload C (i := 8) d_Md_deliver_247 rfl ?_
              refine v_callV C (As := [.int (nI q), .int (G.T 11 64), .int (G.T 12 64), .int (G.T 13 64), .int (G.T 14 64)]) (rest := []) h.o cl_Md rfl w_523 wp_28 (ct_Md_take h q hq su (by omega) (by rw [dlv_16, pk_un (by decide)]; exact hs0) (G.T 11 64) (G.T 12 64) (G.T 13 64) (G.T 14 64) hpc) (Nat.le_of_ble_eq_true rfl) (Nat.le_of_ble_eq_true rfl) w_524 w_6 hy_Md_take w_521 rfl (Nat.le_of_ble_eq_true rfl) ⟨by decide, by decide⟩ d_Md_deliver_249 (fun rv M hp => ?_)
              obtain ⟨rfl, k, ek, hw⟩ := hp
              refine V.eqst (st' := []) rfl (V.cs (k' := 0) (n' := 0) rfl rfl ?_)
              refine v_iload C (i := 5) d_Md_deliver_252 rfl ?_
              exact v_iret hQ C rfl d_Md_deliver_254 (by omega) (by omega) (Or.inr (Or.inr ⟨c_14, i, rfl, Or.inr ⟨c_83, rfl, q, k, eq, ek, hw⟩⟩))
            · have hi2 : i < m := Nat.lt_of_not_le (fun z => c_116 ((nI_leI (by omega) (by omega)).mpr (by omega)))
              refine v_aload_n C (i := 0) d_Md_deliver_119 rfl rfl ?_
              refine v_get C (v := .ref (ad 10)) in_Md h.o cl_Md 13 (by decide) w_384 rfl rfl d_Md_deliver_120 ?_
              refine v_iload C (i := 9) d_Md_deliver_123 rfl ?_
              refine v_aload_n C (i := 0) d_Md_deliver_125 rfl rfl ?_
              refine v_get C (v := .ref (ad 10)) in_Md h.o cl_Md 13 (by decide) w_384 rfl rfl d_Md_deliver_126 ?_
              refine v_iload C (i := 9) d_Md_deliver_129 rfl ?_
              refine v_iconst C (v := 1) d_Md_deliver_131 (by decide) ?_
              refine v_iadd C d_Md_deliver_132 ?_
              refine V.eqst (st' := [.int (nI (64 + i + 1)), .ref (ad 10), .int (nI (64 + i)), .ref (ad 10)]) (by rw [nI_1]) ?_
              refine v_iald C (N := 128) (f := shb (Gd.T 10) 64 i) 0 (h.a 10 (by decide) (by decide)) rfl (pk_in (64 + i + 1) 128 (by omega)) d_Md_deliver_133 ?_
              refine V.eqst (st' := [.int ((shb (Gd.T 10) 64 i) (64 + i + 1)), .int (nI (64 + i)), .ref (ad 10)]) (by rw [show Int32.toNatClampNeg (nI (64 + i + 1)) = 64 + i + 1 from pk_cl _ (hx := rfl)]) ?_
              refine V.eqst (st' := [.int (Gd.T 10 (64 + i + 1)), .int (nI (64 + i)), .ref (ad 10)]) (by rw [shb_at]) ?_
              refine v_iast C (N := 128) (f := shb (Gd.T 10) 64 i) 0 (h.a 10 (by decide) (by decide)) rfl (pk_in (64 + i) 128 (by omega)) d_Md_deliver_134 ?_
              rw [show Int32.toNatClampNeg (nI (64 + i)) = 64 + i from pk_cl _ (hx := rfl)]
              have h : R2 cI cZ (mset M (ad 10) (aI cI 128 (upd (shb (Gd.T 10) 64 i) (64 + i) (Gd.T 10 (64 + i + 1))))) ad ((Gd.shf6 64 i).sT 10 (upd (shb (Gd.T 10) 64 i) (64 + i) (Gd.T 10 (64 + i + 1)))) := h.pa 10 (by decide) (by decide) (upd (shb (Gd.T 10) 64 i) (64 + i) (Gd.T 10 (64 + i + 1)))
              revert h
              generalize mset M (ad 10) (aI cI 128 (upd (shb (Gd.T 10) 64 i) (64 + i) (Gd.T 10 (64 + i + 1)))) = M
              intro h
              refine v_aload_n C (i := 0) d_Md_deliver_135 rfl rfl ?_
              refine v_get C (v := .ref (ad 11)) in_Md h.o cl_Md 14 (by decide) w_385 rfl rfl d_Md_deliver_136 ?_
              refine v_iload C (i := 9) d_Md_deliver_139 rfl ?_
              refine v_aload_n C (i := 0) d_Md_deliver_141 rfl rfl ?_
              refine v_get C (v := .ref (ad 11)) in_Md h.o cl_Md 14 (by decide) w_385 rfl rfl d_Md_deliver_142 ?_
              refine v_iload C (i := 9) d_Md_deliver_145 rfl ?_
              refine v_iconst C (v := 1) d_Md_deliver_147 (by decide) ?_
              refine v_iadd C d_Md_deliver_148 ?_
              refine V.eqst (st' := [.int (nI (64 + i + 1)), .ref (ad 11), .int (nI (64 + i)), .ref (ad 11)]) (by rw [nI_1]) ?_
              refine v_iald C (N := 128) (f := shb (Gd.T 11) 64 i) 0 (h.a 11 (by decide) (by decide)) rfl (pk_in (64 + i + 1) 128 (by omega)) d_Md_deliver_149 ?_
              refine V.eqst (st' := [.int ((shb (Gd.T 11) 64 i) (64 + i + 1)), .int (nI (64 + i)), .ref (ad 11)]) (by rw [show Int32.toNatClampNeg (nI (64 + i + 1)) = 64 + i + 1 from pk_cl _ (hx := rfl)]) ?_
              refine V.eqst (st' := [.int (Gd.T 11 (64 + i + 1)), .int (nI (64 + i)), .ref (ad 11)]) (by rw [shb_at]) ?_
              refine v_iast C (N := 128) (f := shb (Gd.T 11) 64 i) 0 (h.a 11 (by decide) (by decide)) rfl (pk_in (64 + i) 128 (by omega)) d_Md_deliver_150 ?_
              rw [show Int32.toNatClampNeg (nI (64 + i)) = 64 + i from pk_cl _ (hx := rfl)]
              have h : R2 cI cZ (mset M (ad 11) (aI cI 128 (upd (shb (Gd.T 11) 64 i) (64 + i) (Gd.T 11 (64 + i + 1))))) ad (((Gd.shf6 64 i).sT 10 (upd (shb (Gd.T 10) 64 i) (64 + i) (Gd.T 10 (64 + i + 1)))).sT 11 (upd (shb (Gd.T 11) 64 i) (64 + i) (Gd.T 11 (64 + i + 1)))) := h.pa 11 (by decide) (by decide) (upd (shb (Gd.T 11) 64 i) (64 + i) (Gd.T 11 (64 + i + 1)))
              revert h
              generalize mset M (ad 11) (aI cI 128 (upd (shb (Gd.T 11) 64 i) (64 + i) (Gd.T 11 (64 + i + 1)))) = M
              intro h
              refine v_aload_n C (i := 0) d_Md_deliver_151 rfl rfl ?_
              refine v_get C (v := .ref (ad 12)) in_Md h.o cl_Md 15 (by decide) w_386 rfl rfl d_Md_deliver_152 ?_
              refine v_iload C (i := 9) d_Md_deliver_155 rfl ?_
              refine v_aload_n C (i := 0) d_Md_deliver_157 rfl rfl ?_
              refine v_get C (v := .ref (ad 12)) in_Md h.o cl_Md 15 (by decide) w_386 rfl rfl d_Md_deliver_158 ?_
              refine v_iload C (i := 9) d_Md_deliver_161 rfl ?_
              refine v_iconst C (v := 1) d_Md_deliver_163 (by decide) ?_
              refine v_iadd C d_Md_deliver_164 ?_
              refine V.eqst (st' := [.int (nI (64 + i + 1)), .ref (ad 12), .int (nI (64 + i)), .ref (ad 12)]) (by rw [nI_1]) ?_
              refine v_iald C (N := 128) (f := shb (Gd.T 12) 64 i) 0 (h.a 12 (by decide) (by decide)) rfl (pk_in (64 + i + 1) 128 (by omega)) d_Md_deliver_165 ?_
              refine V.eqst (st' := [.int ((shb (Gd.T 12) 64 i) (64 + i + 1)), .int (nI (64 + i)), .ref (ad 12)]) (by rw [show Int32.toNatClampNeg (nI (64 + i + 1)) = 64 + i + 1 from pk_cl _ (hx := rfl)]) ?_
              refine V.eqst (st' := [.int (Gd.T 12 (64 + i + 1)), .int (nI (64 + i)), .ref (ad 12)]) (by rw [shb_at]) ?_
              refine v_iast C (N := 128) (f := shb (Gd.T 12) 64 i) 0 (h.a 12 (by decide) (by decide)) rfl (pk_in (64 + i) 128 (by omega)) d_Md_deliver_166 ?_
              rw [show Int32.toNatClampNeg (nI (64 + i)) = 64 + i from pk_cl _ (hx := rfl)]
              have h : R2 cI cZ (mset M (ad 12) (aI cI 128 (upd (shb (Gd.T 12) 64 i) (64 + i) (Gd.T 12 (64 + i + 1))))) ad ((((Gd.shf6 64 i).sT 10 (upd (shb (Gd.T 10) 64 i) (64 + i) (Gd.T 10 (64 + i + 1)))).sT 11 (upd (shb (Gd.T 11) 64 i) (64 + i) (Gd.T 11 (64 + i + 1)))).sT 12 (upd (shb (Gd.T 12) 64 i) (64 + i) (Gd.T 12 (64 + i + 1)))) := h.pa 12 (by decide) (by decide) (upd (shb (Gd.T 12) 64 i) (64 + i) (Gd.T 12 (64 + i + 1)))
              revert h
              generalize mset M (ad 12) (aI cI 128 (upd (shb (Gd.T 12) 64 i) (64 + i) (Gd.T 12 (64 + i + 1)))) = M
              intro h
              refine v_aload_n C (i := 0) d_Md_deliver_167 rfl rfl ?_
              refine v_get C (v := .ref (ad 13)) in_Md h.o cl_Md 16 (by decide) w_387 rfl rfl d_Md_deliver_168 ?_
              refine v_iload C (i := 9) d_Md_deliver_171 rfl ?_
              refine v_aload_n C (i := 0) d_Md_deliver_173 rfl rfl ?_
              refine v_get C (v := .ref (ad 13)) in_Md h.o cl_Md 16 (by decide) w_387 rfl rfl d_Md_deliver_174 ?_
              refine v_iload C (i := 9) d_Md_deliver_177 rfl ?_
              refine v_iconst C (v := 1) d_Md_deliver_179 (by decide) ?_
              refine v_iadd C d_Md_deliver_180 ?_
              refine V.eqst (st' := [.int (nI (64 + i + 1)), .ref (ad 13), .int (nI (64 + i)), .ref (ad 13)]) (by rw [nI_1]) ?_
              refine v_iald C (N := 128) (f := shb (Gd.T 13) 64 i) 0 (h.a 13 (by decide) (by decide)) rfl (pk_in (64 + i + 1) 128 (by omega)) d_Md_deliver_181 ?_
              refine V.eqst (st' := [.int ((shb (Gd.T 13) 64 i) (64 + i + 1)), .int (nI (64 + i)), .ref (ad 13)]) (by rw [show Int32.toNatClampNeg (nI (64 + i + 1)) = 64 + i + 1 from pk_cl _ (hx := rfl)]) ?_
              refine V.eqst (st' := [.int (Gd.T 13 (64 + i + 1)), .int (nI (64 + i)), .ref (ad 13)]) (by rw [shb_at]) ?_
              refine v_iast C (N := 128) (f := shb (Gd.T 13) 64 i) 0 (h.a 13 (by decide) (by decide)) rfl (pk_in (64 + i) 128 (by omega)) d_Md_deliver_182 ?_
              rw [show Int32.toNatClampNeg (nI (64 + i)) = 64 + i from pk_cl _ (hx := rfl)]
              have h : R2 cI cZ (mset M (ad 13) (aI cI 128 (upd (shb (Gd.T 13) 64 i) (64 + i) (Gd.T 13 (64 + i + 1))))) ad (((((Gd.shf6 64 i).sT 10 (upd (shb (Gd.T 10) 64 i) (64 + i) (Gd.T 10 (64 + i + 1)))).sT 11 (upd (shb (Gd.T 11) 64 i) (64 + i) (Gd.T 11 (64 + i + 1)))).sT 12 (upd (shb (Gd.T 12) 64 i) (64 + i) (Gd.T 12 (64 + i + 1)))).sT 13 (upd (shb (Gd.T 13) 64 i) (64 + i) (Gd.T 13 (64 + i + 1)))) := h.pa 13 (by decide) (by decide) (upd (shb (Gd.T 13) 64 i) (64 + i) (Gd.T 13 (64 + i + 1)))
              revert h
              generalize mset M (ad 13) (aI cI 128 (upd (shb (Gd.T 13) 64 i) (64 + i) (Gd.T 13 (64 + i + 1)))) = M
              intro h
              refine v_aload_n C (i := 0) d_Md_deliver_183 rfl rfl ?_
              refine v_get C (v := .ref (ad 14)) in_Md h.o cl_Md 17 (by decide) w_388 rfl rfl d_Md_deliver_184 ?_
              refine v_iload C (i := 9) d_Md_deliver_187 rfl ?_
              refine v_aload_n C (i := 0) d_Md_deliver_189 rfl rfl ?_
              refine v_get C (v := .ref (ad 14)) in_Md h.o cl_Md 17 (by decide) w_388 rfl rfl d_Md_deliver_190 ?_
              refine v_iload C (i := 9) d_Md_deliver_193 rfl ?_
              refine v_iconst C (v := 1) d_Md_deliver_195 (by decide) ?_
              refine v_iadd C d_Md_deliver_196 ?_
              refine V.eqst (st' := [.int (nI (64 + i + 1)), .ref (ad 14), .int (nI (64 + i)), .ref (ad 14)]) (by rw [nI_1]) ?_
              refine v_iald C (N := 128) (f := shb (Gd.T 14) 64 i) 0 (h.a 14 (by decide) (by decide)) rfl (pk_in (64 + i + 1) 128 (by omega)) d_Md_deliver_197 ?_
              refine V.eqst (st' := [.int ((shb (Gd.T 14) 64 i) (64 + i + 1)), .int (nI (64 + i)), .ref (ad 14)]) (by rw [show Int32.toNatClampNeg (nI (64 + i + 1)) = 64 + i + 1 from pk_cl _ (hx := rfl)]) ?_
              refine V.eqst (st' := [.int (Gd.T 14 (64 + i + 1)), .int (nI (64 + i)), .ref (ad 14)]) (by rw [shb_at]) ?_
              refine v_iast C (N := 128) (f := shb (Gd.T 14) 64 i) 0 (h.a 14 (by decide) (by decide)) rfl (pk_in (64 + i) 128 (by omega)) d_Md_deliver_198 ?_
              rw [show Int32.toNatClampNeg (nI (64 + i)) = 64 + i from pk_cl _ (hx := rfl)]
              have h : R2 cI cZ (mset M (ad 14) (aI cI 128 (upd (shb (Gd.T 14) 64 i) (64 + i) (Gd.T 14 (64 + i + 1))))) ad ((((((Gd.shf6 64 i).sT 10 (upd (shb (Gd.T 10) 64 i) (64 + i) (Gd.T 10 (64 + i + 1)))).sT 11 (upd (shb (Gd.T 11) 64 i) (64 + i) (Gd.T 11 (64 + i + 1)))).sT 12 (upd (shb (Gd.T 12) 64 i) (64 + i) (Gd.T 12 (64 + i + 1)))).sT 13 (upd (shb (Gd.T 13) 64 i) (64 + i) (Gd.T 13 (64 + i + 1)))).sT 14 (upd (shb (Gd.T 14) 64 i) (64 + i) (Gd.T 14 (64 + i + 1)))) := h.pa 14 (by decide) (by decide) (upd (shb (Gd.T 14) 64 i) (64 + i) (Gd.T 14 (64 + i + 1)))
              revert h
              generalize mset M (ad 14) (aI cI 128 (upd (shb (Gd.T 14) 64 i) (64 + i) (Gd.T 14 (64 + i + 1)))) = M
              intro h
              refine v_aload_n C (i := 0) d_Md_deliver_199 rfl rfl ?_
              refine v_get C (v := .ref (ad 15)) in_Md h.o cl_Md 18 (by decide) w_389 rfl rfl d_Md_deliver_200 ?_
              refine v_iload C (i := 9) d_Md_deliver_203 rfl ?_
              refine v_aload_n C (i := 0) d_Md_deliver_205 rfl rfl ?_
              refine v_get C (v := .ref (ad 15)) in_Md h.o cl_Md 18 (by decide) w_389 rfl rfl d_Md_deliver_206 ?_
              refine v_iload C (i := 9) d_Md_deliver_209 rfl ?_
              refine v_iconst C (v := 1) d_Md_deliver_211 (by decide) ?_
              refine v_iadd C d_Md_deliver_212 ?_
              refine V.eqst (st' := [.int (nI (64 + i + 1)), .ref (ad 15), .int (nI (64 + i)), .ref (ad 15)]) (by rw [nI_1]) ?_
              refine v_zald C (N := 128) (f := shb (Gd.T 15) 64 i) 1 h.z rfl (pk_in (64 + i + 1) 128 (by omega)) d_Md_deliver_213 ?_
              refine V.eqst (st' := [.int ((shb (Gd.T 15) 64 i) (64 + i + 1)), .int (nI (64 + i)), .ref (ad 15)]) (by rw [show Int32.toNatClampNeg (nI (64 + i + 1)) = 64 + i + 1 from pk_cl _ (hx := rfl)]) ?_
              refine V.eqst (st' := [.int (Gd.T 15 (64 + i + 1)), .int (nI (64 + i)), .ref (ad 15)]) (by rw [shb_at]) ?_
              refine v_zast C (N := 128) (f := shb (Gd.T 15) 64 i) 1 h.z rfl (pk_in (64 + i) 128 (by omega)) (y := (Gd.T 15 (64 + i + 1))) (nar01 (hzd _)) d_Md_deliver_214 ?_
              rw [show Int32.toNatClampNeg (nI (64 + i)) = 64 + i from pk_cl _ (hx := rfl)]
              have h : R2 cI cZ (mset M (ad 15) (aI cZ 128 (upd (shb (Gd.T 15) 64 i) (64 + i) (Gd.T 15 (64 + i + 1))))) ad (((((((Gd.shf6 64 i).sT 10 (upd (shb (Gd.T 10) 64 i) (64 + i) (Gd.T 10 (64 + i + 1)))).sT 11 (upd (shb (Gd.T 11) 64 i) (64 + i) (Gd.T 11 (64 + i + 1)))).sT 12 (upd (shb (Gd.T 12) 64 i) (64 + i) (Gd.T 12 (64 + i + 1)))).sT 13 (upd (shb (Gd.T 13) 64 i) (64 + i) (Gd.T 13 (64 + i + 1)))).sT 14 (upd (shb (Gd.T 14) 64 i) (64 + i) (Gd.T 14 (64 + i + 1)))).sT 15 (upd (shb (Gd.T 15) 64 i) (64 + i) (Gd.T 15 (64 + i + 1)))) := h.pa 15 (by decide) (by decide) (upd (shb (Gd.T 15) 64 i) (64 + i) (Gd.T 15 (64 + i + 1)))
              revert h
              generalize mset M (ad 15) (aI cZ 128 (upd (shb (Gd.T 15) 64 i) (64 + i) (Gd.T 15 (64 + i + 1)))) = M
              intro h
              refine v_iinc C (i := 9) (j := 0) (v := nI (64 + (i + 1))) (lv' := [(9, .int (nI (64 + (i + 1)))), (8, .int (G.T 14 64)), (7, .int (G.T 13 64)), (6, .int (G.T 12 64)), (5, .int (G.T 11 64)), (4, .int (G.T 10 64)), (3, .int (nI 64)), (2, .int 1), (0, .ref (ad 0)), (1, .int u)]) d_Md_deliver_215 rfl (nI_1 _) (by decide) rfl ?_
              refine v_goto C 106 d_Md_deliver_218 (by decide) ?_
              rw [shf6_s] at h
              refine V.pick (lv' := [(9, .int (nI (64 + (i + 1)))), (8, .int (G.T 14 64)), (7, .int (G.T 13 64)), (6, .int (G.T 12 64)), (5, .int (G.T 11 64)), (4, .int (G.T 10 64)), (3, .int (nI 64)), (2, .int 1), (0, .ref (ad 0)), (1, .int u)]) [0, 1, 2, 3, 4, 5, 6, 7, 8, 9] rfl ?_
              exact ih (i + 1) M (by omega) (by omega) h
        refine V.pick (lv' := [(9, .int (nI 64)), (8, .int (G.T 14 64)), (7, .int (G.T 13 64)), (6, .int (G.T 12 64)), (5, .int (G.T 11 64)), (4, .int (G.T 10 64)), (3, .int (nI 64)), (2, .int 1), (0, .ref (ad 0)), (1, .int u)]) [0, 1, 2, 3, 4, 5, 6, 7, 8, 9] rfl ?_
        refine V.pick (lv' := [(9, .int (nI (64 + 0))), (8, .int (G.T 14 64)), (7, .int (G.T 13 64)), (6, .int (G.T 12 64)), (5, .int (G.T 11 64)), (4, .int (G.T 10 64)), (3, .int (nI 64)), (2, .int 1), (0, .ref (ad 0)), (1, .int u)]) [0, 1, 2, 3, 4, 5, 6, 7, 8, 9] rfl ?_
        refine L (m + 1) 0 M (by omega) (by omega) ?_
        rw [shf6_0]
        exact h
      · refine v_aload_n C (i := 0) d_Md_deliver_86 rfl rfl ?_
        refine v_callV C (As := []) (rest := []) h.o cl_Md rfl w_494 wp_21 (ct_Md_end h n hn hn120) (Nat.le_of_ble_eq_true rfl) (Nat.le_of_ble_eq_true rfl) w_495 w_6 hy_Md_end w_492 rfl (Nat.le_of_ble_eq_true rfl) ⟨by decide, by decide⟩ d_Md_deliver_87 (fun rv M hp => ?_)
        obtain ⟨rfl, hw⟩ := hp
        refine V.eqst (st' := []) rfl (V.cs (k' := 0) (n' := 0) rfl rfl ?_)
        refine v_bipush C (v := (-5)) d_Md_deliver_90 (by decide) ?_
        exact v_iret hQ C rfl d_Md_deliver_92 (by omega) (by omega) (Or.inr (Or.inr ⟨c_14, m, rfl, Or.inl ⟨c_83, rfl, hw⟩⟩))
    · have hz0 : sd = 0 := Classical.byContradiction fun z => nI_ne0 (Nat.pos_of_ne_zero z) (by omega) c_26
      refine v_bipush C (v := (-3)) d_Md_deliver_29 (by decide) ?_
      exact v_iret hQ C rfl d_Md_deliver_31 (by omega) (by omega) (Or.inr (Or.inl ⟨c_14, hz0, rfl, h⟩))
  · refine v_bipush C (v := (-4)) d_Md_deliver_17 (by decide) ?_
    exact v_iret hQ C rfl d_Md_deliver_19 (by omega) (by omega) (Or.inl ⟨c_14, rfl, h⟩)
end
