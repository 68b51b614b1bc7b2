/-! Memory as a function: address to cell. Built on the kit's worlds (va_at, va_K, va_S). -/
abbrev Mem : Type := Nat → Option va_E
abbrev aI (c : ClassId) (n : Nat) (f : Nat → Int32) : va_E := .inl (c, n, .inl f)
abbrev aL (c : ClassId) (n : Nat) (f : Nat → Int64) : va_E := .inl (c, n, .inr (.inl f))
abbrev aQ (c : ClassId) (n : Nat) (f : Nat → Option Nat) : va_E := .inl (c, n, .inr (.inr (.inr (.inr f))))
abbrev ob (ci : Nat) (fs : List Value) : va_E := .inr (ci, fs)
def mset (M : Mem) (a : Nat) (e : va_E) : Mem := fun b => if b = a then some e else M b
theorem mset_self (M : Mem) (a : Nat) (e : va_E) : mset M a e a = some e := if_pos rfl
theorem mset_ne {M : Mem} {a b : Nat} {e : va_E} (h : b ≠ a) : mset M a e b = M b := if_neg h
theorem mset_set (M : Mem) (a : Nat) (e e' : va_E) : mset (mset M a e) a e' = mset M a e' := by
  funext b
  by_cases h : b = a
  · subst h; rw [mset_self, mset_self]
  · rw [mset_ne h, mset_ne h, mset_ne h]
theorem mset_comm (M : Mem) {a b : Nat} (e e' : va_E) (hab : a ≠ b) : mset (mset M a e) b e' = mset (mset M b e') a e := by
  funext c
  by_cases h : c = b
  · subst h; rw [mset_self, mset_ne (Ne.symm hab), mset_self]
  · rw [mset_ne h]
    by_cases h2 : c = a
    · subst h2; rw [mset_self, mset_self]
    · rw [mset_ne h2, mset_ne h2, mset_ne h]
theorem mset_id {M : Mem} {a : Nat} {e : va_E} (h : M a = some e) : mset M a e = M := by
  funext b
  by_cases hb : b = a
  · subst hb; rw [mset_self, h]
  · rw [mset_ne hb]
/-- a cell's kind: two cells of different kinds lie apart -/
def kd : va_E → Nat × Nat
  | .inl (_, _, .inl _) => (0, 0)
  | .inl (_, _, .inr (.inl _)) => (0, 1)
  | .inl (_, _, .inr (.inr _)) => (0, 2)
  | .inr (c, _) => (1, c)
theorem mne {M : Mem} {a b : Nat} {e e' : va_E} (h1 : M a = some e) (h2 : M b = some e') (h : (kd e == kd e') = false) : a ≠ b := by
  intro hab
  subst hab
  rw [h1] at h2
  cases h2
  simp at h
def mm_h (D : va_G) (cl : List vw_C) (M : Mem) (H : Heap) : Prop := ∀ (a : Nat) (e : va_E), M a = some e → va_at D cl (a, e) H
def mm_ok (D : va_G) (cl : List vw_C) (A : Nat → Prop) (M : Mem) (H : Heap) : Prop := ∀ (a : Nat) (e : va_E), M a = some e → A a ∧ va_at D cl (a, e) H
def mm_A (M : Mem) (sz : Nat) : Nat → Prop := fun q => (∃ e, M q = some e) ∨ sz ≤ q
section MMB
variable {D : va_G} {cl : List vw_C} {A : Nat → Prop} {M : Mem} {H H1 : Heap} {a : Nat} {e : va_E}
theorem mm_ok.one (h : mm_ok D cl A M H) (ha : M a = some e) : va_P D cl [(a, e)] H := by
  intro k q hk
  cases k with
  | zero => cases hk; exact (h a e ha).2
  | succ n => simp at hk
theorem mm_ok.lt (h : mm_ok D cl A M H) (ha : M a = some e) : a < H.size := (h a e ha).2.lt
theorem mm_ok.fresh (h : mm_ok D cl A M H) : M H.size = none := by
  cases hx : M H.size with
  | none => rfl
  | some e => exact absurd (h.lt hx) (Nat.lt_irrefl _)
theorem mm_ok.set (h : mm_ok D cl A M H) (ha : A a) (he : va_at D cl (a, e) H1) (oq : ∀ q : Nat, q ≠ a → H1[q]? = H[q]?) : mm_ok D cl A (mset M a e) H1 := by
  intro b x hb
  by_cases hba : b = a
  · subst hba
    rw [mset_self] at hb
    cases hb
    exact ⟨ha, he⟩
  · rw [mset_ne hba] at hb
    exact ⟨(h b x hb).1, (h b x hb).2.kept (oq b hba)⟩
theorem mm_ok.push (h : mm_ok D cl A M H) (hA : A H.size) (he : va_at D cl (H.size, e) H1) (o1 : ∀ q : Nat, q < H.size → H1[q]? = H[q]?) : mm_ok D cl A (mset M H.size e) H1 := by
  intro b x hb
  by_cases hba : b = H.size
  · subst hba
    rw [mset_self] at hb
    cases hb
    exact ⟨hA, he⟩
  · rw [mset_ne hba] at hb
    exact ⟨(h b x hb).1, (h b x hb).2.kept (o1 b (h.lt hb))⟩
theorem mm_ok.self (h : mm_h D cl M H) (sz : Nat) : mm_ok D cl (mm_A M sz) M H := fun a e ha => ⟨Or.inl ⟨e, ha⟩, h a e ha⟩
theorem mm_ok.h (h : mm_ok D cl A M H) : mm_h D cl M H := fun a e ha => (h a e ha).2
theorem mm_ok.weaken {B : Nat → Prop} (h : mm_ok D cl A M H) (hAB : ∀ q, A q → B q) : mm_ok D cl B M H := fun a e ha => ⟨hAB a (h a e ha).1, (h a e ha).2⟩
end MMB
def lget : List (Nat × Value) → Nat → Option Value
  | [], _ => none
  | q :: r, i => if q.1 = i then some q.2 else lget r i
theorem lget_mem {l : List (Nat × Value)} {i : Nat} {v : Value} (h : lget l i = some v) : (i, v) ∈ l := by
  induction l with
  | nil => cases h
  | cons q r ih =>
    unfold lget at h
    by_cases hq : q.1 = i
    · rw [if_pos hq] at h
      cases h
      subst hq
      exact List.mem_cons_self
    · rw [if_neg hq] at h
      exact List.mem_cons_of_mem _ (ih h)
theorem lget_at {ls : Array Slot} {nL : Nat} {l : List (Nat × Value)} (h : lv_has ls nL l) {i : Nat} {v : Value} (hk : lget l i = some v) : ls[i]? = some (.val v) := h.2.2 (i, v) (lget_mem hk)
/-- the words of the tables, whatever the arguments -/
def tw (T : List Cond) (U : State) : Prop := ∀ w ∈ T, ∀ a : Array Value, w.before a U = true
def Kw (T : List Cond) (D : va_G) (cl : List vw_C) (tys : List (ClassId × FieldType)) (U : State) : Prop := va_K D cl tys U ∧ tw T U
theorem mov_at {w : Cond} (hm : mov w = true) {s U : State} (hW : s.WarmedH U.vm) (h : ∀ a : Array Value, w.before a s = true) (a' : Array Value) : w.before a' U = true := by
  cases w <;> first
    | exact word_at hW (Or.inl hm) (h #[])
    | exact word_at hW (Or.inr ⟨_, rfl⟩) (h #[])
    | exact va_Nw.use rfl (va_Nw.warmF hW (h #[]))
    | exact va_Nw.use rfl (va_Nw.warmM hW (h #[]))
    | (rename_i ty; cases ty <;> first | exact va_AO.use (va_AO.moved hW.alike (va_AO.of (h #[]))) | (simp [mov, Cond.onTables] at hm))
theorem tw.moved {T : List Cond} (hT : ∀ w ∈ T, mov w = true) {s U : State} (hW : s.WarmedH U.vm) (h : tw T s) : tw T U := fun w hw a => mov_at (hT w hw) hW (h w hw) a
theorem Kw.moved {T : List Cond} {D : va_G} {cl : List vw_C} {tys : List (ClassId × FieldType)} (hT : ∀ w ∈ T, mov w = true) {s U : State} (hW : s.WarmedH U.vm) (h : Kw T D cl tys s) : Kw T D cl tys U := ⟨va_K.moved hW.alike h.1, h.2.moved hT hW⟩
/-- a walk's context: tables' names, what may be written, the machine, the goal -/
abbrev Zt : Type := va_G × (Nat → Prop) × Program × Launch × Env × State × MethodId × Array Value × List Frame × Method × Code × (State → Prop)
abbrev Zt.D (Z : Zt) : va_G := Z.1
abbrev Zt.A (Z : Zt) : Nat → Prop := Z.2.1
abbrev Zt.p (Z : Zt) : Program := Z.2.2.1
abbrev Zt.l (Z : Zt) : Launch := Z.2.2.2.1
abbrev Zt.e (Z : Zt) : Env := Z.2.2.2.2.1
abbrev Zt.s (Z : Zt) : State := Z.2.2.2.2.2.1
abbrev Zt.m (Z : Zt) : MethodId := Z.2.2.2.2.2.2.1
abbrev Zt.args (Z : Zt) : Array Value := Z.2.2.2.2.2.2.2.1
abbrev Zt.below (Z : Zt) : List Frame := Z.2.2.2.2.2.2.2.2.1
abbrev Zt.meth (Z : Zt) : Method := Z.2.2.2.2.2.2.2.2.2.1
abbrev Zt.c (Z : Zt) : Code := Z.2.2.2.2.2.2.2.2.2.2.1
abbrev Zt.Q (Z : Zt) : State → Prop := Z.2.2.2.2.2.2.2.2.2.2.2
/-- what a method's walk stands on -/
def Cx (T : List Cond) (cl : List vw_C) (tys : List (ClassId × FieldType)) (own : String) (cc : ByteArray) (nL : Nat) (ret : Option FieldType) (Z : Zt) : Prop :=
  Z.p.tables.exec = Jvm.exec ∧ Z.c.code = cc ∧ Z.c.maxLocals = nL ∧ Z.s.vm.findClass own = some Z.m.cls ∧ Z.meth.sig.returnType = ret ∧ Z.meth.locks = false ∧ (∀ q, Z.s.heap.size ≤ q → Z.A q) ∧ (∀ w ∈ T, mov w = true) ∧ Kw T Z.D cl tys Z.s
def V (cl : List vw_C) (nL : Nat) (R : Room) (Z : Zt) (pc : Nat) (lv : List (Nat × Value)) (st : List Value) (M : Mem) (k n : Nat) : Prop :=
  ∀ (H : Heap) (locs : List Loc) (ls : Array Slot), lv_has ls nL lv → mm_ok Z.D cl Z.A M H → va_S Z.A Z.s.heap H locs → W Z.p Z.l Z.e R Z.s Z.m Z.args Z.below Z.meth Z.c H locs k n Z.Q (F0 Z.m pc ls st)
/-- the end of a contract -/
def mq (post : Option Value → Mem → Prop) (D : va_G) (cl : List vw_C) (A : Nat → Prop) : Array Value → State → Outcome → State → Prop := fun _ st oc t => (∃ (rv : Option Value) (M' : Mem), oc = .returned rv ∧ post rv M' ∧ mm_ok D cl A M' t.heap) ∧ va_F A st t
def rmOf (fr lo mc ms : Nat) : Room := { frames := fr, cells := mc, slots := ms, locals := lo }
/-- a method's contract: called with av over a memory M it returns, with post -/
def Ct (T : List Cond) (D : va_G) (cl : List vw_C) (tys : List (ClassId × FieldType)) (l : Launch) (y : MethodName) (cc : ByteArray) (maxL : Nat) (ret : Option FieldType) (fr lo mc ms : Nat) (av : List Value) (M : Mem) (post : Option Value → Mem → Prop) : Prop :=
  ∀ sz : Nat, Met l y [.code y cc maxL ret] (rmOf fr lo mc ms) (va_Pc av (fun U => U.heap.size = sz ∧ mm_h D cl M U.heap ∧ (∀ w ∈ T, mov w = true) ∧ Kw T D cl tys U)) (mq post D cl (mm_A M sz)) mc ms (mm_A M sz)

section VV
variable {T : List Cond} {cl : List vw_C} {tys : List (ClassId × FieldType)} {own : String} {cc : ByteArray} {nL : Nat} {ret : Option FieldType}
variable {R : Room} {Z : Zt} {pc : Nat} {lv : List (Nat × Value)} {st : List Value} {M : Mem} {k n : Nat}
theorem V.widen {k' n' : Nat} (h1 : k ≤ k') (h2 : n ≤ n') (kk : V cl nL R Z pc lv st M k' n') : V cl nL R Z pc lv st M k n := fun H locs ls hl hm hS => W.widen h1 h2 (kk H locs ls hl hm hS)
theorem V.pick {lv' : List (Nat × Value)} (ks : List Nat) (h : lv_pick lv ks = lv') (kk : V cl nL R Z pc lv' st M k n) : V cl nL R Z pc lv st M k n := fun H locs ls hl hm hS => kk H locs ls (lv_sub hl ks h) hm hS
theorem V.topi {x : Int32} (kk : ∀ y : Int32, y = x → V cl nL R Z pc lv (.int y :: st) M k n) : V cl nL R Z pc lv (.int x :: st) M k n := kk x rfl
theorem V.eqst {st' : List Value} (h : st = st') (kk : V cl nL R Z pc lv st' M k n) : V cl nL R Z pc lv st M k n := h ▸ kk
theorem V.eqM {M' : Mem} (h : M = M') (kk : V cl nL R Z pc lv st M' k n) : V cl nL R Z pc lv st M k n := h ▸ kk
theorem V.cs {k' n' : Nat} (h1 : k = k') (h2 : n = n') (kk : V cl nL R Z pc lv st M k' n') : V cl nL R Z pc lv st M k n := by subst h1; subst h2; exact kk
theorem v_iconst (C : Cx T cl tys own cc nL ret Z) {z : Int} {v : Int32} (hdg : decode cc pc = .ok (.iconst z, 1)) (hv : Int32.ofInt z = v) (kk : V cl nL R Z (pc + 1) lv (.int v :: st) M k n) : V cl nL R Z pc lv st M k n := fun H locs ls hl hm hS => lv_iconst C.1 C.2.1 hdg hv (kk H locs ls hl hm hS)
theorem v_bipush (C : Cx T cl tys own cc nL ret Z) {z : Int} {v : Int32} (hdg : decode cc pc = .ok (.bipush z, 2)) (hv : (Int8.ofInt z).toInt32 = v) (kk : V cl nL R Z (pc + 2) lv (.int v :: st) M k n) : V cl nL R Z pc lv st M k n := fun H locs ls hl hm hS => lv_bipush C.1 C.2.1 hdg hv (kk H locs ls hl hm hS)
theorem v_sipush (C : Cx T cl tys own cc nL ret Z) {z : Int} {v : Int32} (hdg : decode cc pc = .ok (.sipush z, 3)) (hv : (Int16.ofInt z).toInt32 = v) (kk : V cl nL R Z (pc + 3) lv (.int v :: st) M k n) : V cl nL R Z pc lv st M k n := fun H locs ls hl hm hS => lv_sipush C.1 C.2.1 hdg hv (kk H locs ls hl hm hS)
theorem v_lconst (C : Cx T cl tys own cc nL ret Z) {z : Fin 2} {v : Int64} (hdg : decode cc pc = .ok (.lconst z, 1)) (hv : Int64.ofNat (z : Nat) = v) (kk : V cl nL R Z (pc + 1) lv (.long v :: st) M k n) : V cl nL R Z pc lv st M k n := fun H locs ls hl hm hS => lv_lconst C.1 C.2.1 hdg hv (kk H locs ls hl hm hS)
theorem v_iload_n (C : Cx T cl tys own cc nL ret Z) {j : Fin 4} {i : Nat} {x : Int32} (hdg : decode cc pc = .ok (.iload_n j, 1)) (hi : (j : Nat) = i) (hg : lget lv i = some (.int x)) (kk : V cl nL R Z (pc + 1) lv (.int x :: st) M k n) : V cl nL R Z pc lv st M k n := fun H locs ls hl hm hS => lv_iload_n C.1 C.2.1 hdg hi (lget_at hl hg) (kk H locs ls hl hm hS)
theorem v_iload (C : Cx T cl tys own cc nL ret Z) {i : Nat} {x : Int32} (hdg : decode cc pc = .ok (.iload i, 2)) (hg : lget lv i = some (.int x)) (kk : V cl nL R Z (pc + 2) lv (.int x :: st) M k n) : V cl nL R Z pc lv st M k n := fun H locs ls hl hm hS => lv_iload C.1 C.2.1 hdg (lget_at hl hg) (kk H locs ls hl hm hS)
theorem v_lload_n (C : Cx T cl tys own cc nL ret Z) {j : Fin 4} {i : Nat} {x : Int64} (hdg : decode cc pc = .ok (.lload_n j, 1)) (hi : (j : Nat) = i) (hg : lget lv i = some (.long x)) (kk : V cl nL R Z (pc + 1) lv (.long x :: st) M k n) : V cl nL R Z pc lv st M k n := fun H locs ls hl hm hS => lv_lload_n C.1 C.2.1 hdg hi (lget_at hl hg) (kk H locs ls hl hm hS)
theorem v_lload (C : Cx T cl tys own cc nL ret Z) {i : Nat} {x : Int64} (hdg : decode cc pc = .ok (.lload i, 2)) (hg : lget lv i = some (.long x)) (kk : V cl nL R Z (pc + 2) lv (.long x :: st) M k n) : V cl nL R Z pc lv st M k n := fun H locs ls hl hm hS => lv_lload C.1 C.2.1 hdg (lget_at hl hg) (kk H locs ls hl hm hS)
theorem v_aload_n (C : Cx T cl tys own cc nL ret Z) {j : Fin 4} {i : Nat} {x : Nat} (hdg : decode cc pc = .ok (.aload_n j, 1)) (hi : (j : Nat) = i) (hg : lget lv i = some (.ref x)) (kk : V cl nL R Z (pc + 1) lv (.ref x :: st) M k n) : V cl nL R Z pc lv st M k n := fun H locs ls hl hm hS => lv_aload_n C.1 C.2.1 hdg hi (lget_at hl hg) (kk H locs ls hl hm hS)
theorem v_aload (C : Cx T cl tys own cc nL ret Z) {i : Nat} {x : Nat} (hdg : decode cc pc = .ok (.aload i, 2)) (hg : lget lv i = some (.ref x)) (kk : V cl nL R Z (pc + 2) lv (.ref x :: st) M k n) : V cl nL R Z pc lv st M k n := fun H locs ls hl hm hS => lv_aload C.1 C.2.1 hdg (lget_at hl hg) (kk H locs ls hl hm hS)
theorem v_aload_nN (C : Cx T cl tys own cc nL ret Z) {j : Fin 4} {i : Nat} (hdg : decode cc pc = .ok (.aload_n j, 1)) (hi : (j : Nat) = i) (hg : lget lv i = some .null) (kk : V cl nL R Z (pc + 1) lv (.null :: st) M k n) : V cl nL R Z pc lv st M k n := fun H locs ls hl hm hS => lv_aload_nN C.1 C.2.1 hdg hi (lget_at hl hg) (kk H locs ls hl hm hS)
theorem v_aloadN (C : Cx T cl tys own cc nL ret Z) {i : Nat} (hdg : decode cc pc = .ok (.aload i, 2)) (hg : lget lv i = some .null) (kk : V cl nL R Z (pc + 2) lv (.null :: st) M k n) : V cl nL R Z pc lv st M k n := fun H locs ls hl hm hS => lv_aloadN C.1 C.2.1 hdg (lget_at hl hg) (kk H locs ls hl hm hS)
theorem v_istore_n (C : Cx T cl tys own cc nL ret Z) {j : Fin 4} {i : Nat} {x : Int32} {lv' : List (Nat × Value)} (hdg : decode cc pc = .ok (.istore_n j, 1)) (hi : (j : Nat) = i) (hn : i < nL) (he : (i, (Value.int x)) :: lv.filter (fun q => !(q.1 == i) && !(q.1 + 1 == i && q.2.category == 2)) = lv') (kk : V cl nL R Z (pc + 1) lv' st M k n) : V cl nL R Z pc lv (.int x :: st) M k n := fun H locs ls hl hm hS => lv_istore_n C.1 C.2.1 hdg hi hl hn he (fun ls' hl' => kk H locs ls' hl' hm hS)
theorem v_istore (C : Cx T cl tys own cc nL ret Z)  {i : Nat} {x : Int32} {lv' : List (Nat × Value)} (hdg : decode cc pc = .ok (.istore i, 2))  (hn : i < nL) (he : (i, (Value.int x)) :: lv.filter (fun q => !(q.1 == i) && !(q.1 + 1 == i && q.2.category == 2)) = lv') (kk : V cl nL R Z (pc + 2) lv' st M k n) : V cl nL R Z pc lv (.int x :: st) M k n := fun H locs ls hl hm hS => lv_istore C.1 C.2.1 hdg hl hn he (fun ls' hl' => kk H locs ls' hl' hm hS)
theorem v_lstore_n (C : Cx T cl tys own cc nL ret Z) {j : Fin 4} {i : Nat} {x : Int64} {lv' : List (Nat × Value)} (hdg : decode cc pc = .ok (.lstore_n j, 1)) (hi : (j : Nat) = i) (hn : i + 1 < nL) (he : (i, (Value.long x)) :: lv.filter (fun q => !(q.1 == i) && (!(q.1 == i + 1) && !(q.1 + 1 == i && q.2.category == 2))) = lv') (kk : V cl nL R Z (pc + 1) lv' st M k n) : V cl nL R Z pc lv (.long x :: st) M k n := fun H locs ls hl hm hS => lv_lstore_n C.1 C.2.1 hdg hi hl hn he (fun ls' hl' => kk H locs ls' hl' hm hS)
theorem v_lstore (C : Cx T cl tys own cc nL ret Z)  {i : Nat} {x : Int64} {lv' : List (Nat × Value)} (hdg : decode cc pc = .ok (.lstore i, 2))  (hn : i + 1 < nL) (he : (i, (Value.long x)) :: lv.filter (fun q => !(q.1 == i) && (!(q.1 == i + 1) && !(q.1 + 1 == i && q.2.category == 2))) = lv') (kk : V cl nL R Z (pc + 2) lv' st M k n) : V cl nL R Z pc lv (.long x :: st) M k n := fun H locs ls hl hm hS => lv_lstore C.1 C.2.1 hdg hl hn he (fun ls' hl' => kk H locs ls' hl' hm hS)
theorem v_astore_n (C : Cx T cl tys own cc nL ret Z) {j : Fin 4} {i : Nat} {x : Nat} {lv' : List (Nat × Value)} (hdg : decode cc pc = .ok (.astore_n j, 1)) (hi : (j : Nat) = i) (hn : i < nL) (he : (i, (Value.ref x)) :: lv.filter (fun q => !(q.1 == i) && !(q.1 + 1 == i && q.2.category == 2)) = lv') (kk : V cl nL R Z (pc + 1) lv' st M k n) : V cl nL R Z pc lv (.ref x :: st) M k n := fun H locs ls hl hm hS => lv_astore_n C.1 C.2.1 hdg hi hl hn he (fun ls' hl' => kk H locs ls' hl' hm hS)
theorem v_astore (C : Cx T cl tys own cc nL ret Z)  {i : Nat} {x : Nat} {lv' : List (Nat × Value)} (hdg : decode cc pc = .ok (.astore i, 2))  (hn : i < nL) (he : (i, (Value.ref x)) :: lv.filter (fun q => !(q.1 == i) && !(q.1 + 1 == i && q.2.category == 2)) = lv') (kk : V cl nL R Z (pc + 2) lv' st M k n) : V cl nL R Z pc lv (.ref x :: st) M k n := fun H locs ls hl hm hS => lv_astore C.1 C.2.1 hdg hl hn he (fun ls' hl' => kk H locs ls' hl' hm hS)
theorem v_astore_nN (C : Cx T cl tys own cc nL ret Z) {j : Fin 4} {i : Nat}  {lv' : List (Nat × Value)} (hdg : decode cc pc = .ok (.astore_n j, 1)) (hi : (j : Nat) = i) (hn : i < nL) (he : (i, Value.null) :: lv.filter (fun q => !(q.1 == i) && !(q.1 + 1 == i && q.2.category == 2)) = lv') (kk : V cl nL R Z (pc + 1) lv' st M k n) : V cl nL R Z pc lv (.null :: st) M k n := fun H locs ls hl hm hS => lv_astore_nN C.1 C.2.1 hdg hi hl hn he (fun ls' hl' => kk H locs ls' hl' hm hS)
theorem v_astoreN (C : Cx T cl tys own cc nL ret Z)  {i : Nat}  {lv' : List (Nat × Value)} (hdg : decode cc pc = .ok (.astore i, 2))  (hn : i < nL) (he : (i, Value.null) :: lv.filter (fun q => !(q.1 == i) && !(q.1 + 1 == i && q.2.category == 2)) = lv') (kk : V cl nL R Z (pc + 2) lv' st M k n) : V cl nL R Z pc lv (.null :: st) M k n := fun H locs ls hl hm hS => lv_astoreN C.1 C.2.1 hdg hl hn he (fun ls' hl' => kk H locs ls' hl' hm hS)
theorem v_iinc (C : Cx T cl tys own cc nL ret Z) {i j : Nat} {z : Int} {x v : Int32} {lv' : List (Nat × Value)} (hdg : decode cc pc = .ok (.iinc i z, 3)) (hj : lv[j]? = some (i, .int x)) (hv : x + Int32.ofInt z = v) (hn : i < nL) (he : (i, Value.int v) :: lv.filter (fun q => !(q.1 == i) && !(q.1 + 1 == i && q.2.category == 2)) = lv') (kk : V cl nL R Z (pc + 3) lv' st M k n) : V cl nL R Z pc lv st M k n := fun H locs ls hl hm hS => lv_iinc C.1 C.2.1 hdg hl hj hv hn he (fun ls' hl' => kk H locs ls' hl' hm hS)
theorem v_iadd (C : Cx T cl tys own cc nL ret Z) {x y : Int32} (hdg : decode cc pc = .ok (.iadd, 1))  (kk : V cl nL R Z (pc + 1) lv (.int (x + y) :: st) M k n) : V cl nL R Z pc lv (.int y :: .int x :: st) M k n := fun H locs ls hl hm hS => lv_iadd C.1 C.2.1 hdg (kk H locs ls hl hm hS)
theorem v_isub (C : Cx T cl tys own cc nL ret Z) {x y : Int32} (hdg : decode cc pc = .ok (.isub, 1))  (kk : V cl nL R Z (pc + 1) lv (.int (x - y) :: st) M k n) : V cl nL R Z pc lv (.int y :: .int x :: st) M k n := fun H locs ls hl hm hS => lv_isub C.1 C.2.1 hdg (kk H locs ls hl hm hS)
theorem v_imul (C : Cx T cl tys own cc nL ret Z) {x y : Int32} (hdg : decode cc pc = .ok (.imul, 1))  (kk : V cl nL R Z (pc + 1) lv (.int (x * y) :: st) M k n) : V cl nL R Z pc lv (.int y :: .int x :: st) M k n := fun H locs ls hl hm hS => lv_imul C.1 C.2.1 hdg (kk H locs ls hl hm hS)
theorem v_iand (C : Cx T cl tys own cc nL ret Z) {x y : Int32} (hdg : decode cc pc = .ok (.iand, 1))  (kk : V cl nL R Z (pc + 1) lv (.int (x &&& y) :: st) M k n) : V cl nL R Z pc lv (.int y :: .int x :: st) M k n := fun H locs ls hl hm hS => lv_iand C.1 C.2.1 hdg (kk H locs ls hl hm hS)
theorem v_ior (C : Cx T cl tys own cc nL ret Z) {x y : Int32} (hdg : decode cc pc = .ok (.ior, 1))  (kk : V cl nL R Z (pc + 1) lv (.int (x ||| y) :: st) M k n) : V cl nL R Z pc lv (.int y :: .int x :: st) M k n := fun H locs ls hl hm hS => lv_ior C.1 C.2.1 hdg (kk H locs ls hl hm hS)
theorem v_ixor (C : Cx T cl tys own cc nL ret Z) {x y : Int32} (hdg : decode cc pc = .ok (.ixor, 1))  (kk : V cl nL R Z (pc + 1) lv (.int (x ^^^ y) :: st) M k n) : V cl nL R Z pc lv (.int y :: .int x :: st) M k n := fun H locs ls hl hm hS => lv_ixor C.1 C.2.1 hdg (kk H locs ls hl hm hS)
theorem v_idiv (C : Cx T cl tys own cc nL ret Z) {x y : Int32} (hdg : decode cc pc = .ok (.idiv, 1)) (hne : ¬ y = 0) (kk : V cl nL R Z (pc + 1) lv (.int (x / y) :: st) M k n) : V cl nL R Z pc lv (.int y :: .int x :: st) M k n := fun H locs ls hl hm hS => lv_idiv C.1 C.2.1 hdg hne (kk H locs ls hl hm hS)
theorem v_irem (C : Cx T cl tys own cc nL ret Z) {x y : Int32} (hdg : decode cc pc = .ok (.irem, 1)) (hne : ¬ y = 0) (kk : V cl nL R Z (pc + 1) lv (.int (x - x / y * y) :: st) M k n) : V cl nL R Z pc lv (.int y :: .int x :: st) M k n := fun H locs ls hl hm hS => lv_irem C.1 C.2.1 hdg hne (kk H locs ls hl hm hS)
theorem v_ineg (C : Cx T cl tys own cc nL ret Z) {x : Int32} (hdg : decode cc pc = .ok (.ineg, 1))  (kk : V cl nL R Z (pc + 1) lv (.int (-x) :: st) M k n) : V cl nL R Z pc lv (.int x :: st) M k n := fun H locs ls hl hm hS => lv_ineg C.1 C.2.1 hdg (kk H locs ls hl hm hS)
theorem v_ladd (C : Cx T cl tys own cc nL ret Z) {x y : Int64} (hdg : decode cc pc = .ok (.ladd, 1))  (kk : V cl nL R Z (pc + 1) lv (.long (x + y) :: st) M k n) : V cl nL R Z pc lv (.long y :: .long x :: st) M k n := fun H locs ls hl hm hS => lv_ladd C.1 C.2.1 hdg (kk H locs ls hl hm hS)
theorem v_lsub (C : Cx T cl tys own cc nL ret Z) {x y : Int64} (hdg : decode cc pc = .ok (.lsub, 1))  (kk : V cl nL R Z (pc + 1) lv (.long (x - y) :: st) M k n) : V cl nL R Z pc lv (.long y :: .long x :: st) M k n := fun H locs ls hl hm hS => lv_lsub C.1 C.2.1 hdg (kk H locs ls hl hm hS)
theorem v_lmul (C : Cx T cl tys own cc nL ret Z) {x y : Int64} (hdg : decode cc pc = .ok (.lmul, 1))  (kk : V cl nL R Z (pc + 1) lv (.long (x * y) :: st) M k n) : V cl nL R Z pc lv (.long y :: .long x :: st) M k n := fun H locs ls hl hm hS => lv_lmul C.1 C.2.1 hdg (kk H locs ls hl hm hS)
theorem v_i2l (C : Cx T cl tys own cc nL ret Z) {x : Int32} {v : Int64} (hdg : decode cc pc = .ok (.i2l, 1)) (hv : x.toInt64 = v) (kk : V cl nL R Z (pc + 1) lv (.long v :: st) M k n) : V cl nL R Z pc lv (.int x :: st) M k n := fun H locs ls hl hm hS => lv_i2l C.1 C.2.1 hdg hv (kk H locs ls hl hm hS)
theorem v_l2i (C : Cx T cl tys own cc nL ret Z) {x : Int64} {v : Int32} (hdg : decode cc pc = .ok (.l2i, 1)) (hv : x.toInt32 = v) (kk : V cl nL R Z (pc + 1) lv (.int v :: st) M k n) : V cl nL R Z pc lv (.long x :: st) M k n := fun H locs ls hl hm hS => lv_l2i C.1 C.2.1 hdg hv (kk H locs ls hl hm hS)
theorem v_lcmp (C : Cx T cl tys own cc nL ret Z) {x y : Int64} (hdg : decode cc pc = .ok (.lcmp, 1)) (kk : V cl nL R Z (pc + 1) lv (.int (lg_cmp x y) :: st) M k n) : V cl nL R Z pc lv (.long y :: .long x :: st) M k n := fun H locs ls hl hm hS => W.lcmp C.1 C.2.1 hdg (kk H locs ls hl hm hS)
theorem v_dup (C : Cx T cl tys own cc nL ret Z) {va : Value} (hdg : decode cc pc = .ok (.dup, 1)) (h1 : va.category = 1) (kk : V cl nL R Z (pc + 1) lv (va :: va :: st) M k n) : V cl nL R Z pc lv (va :: st) M k n := fun H locs ls hl hm hS => lv_dup C.1 C.2.1 hdg h1 (kk H locs ls hl hm hS)
theorem v_pop (C : Cx T cl tys own cc nL ret Z) {va : Value} (hdg : decode cc pc = .ok (.pop, 1)) (h1 : va.category = 1) (kk : V cl nL R Z (pc + 1) lv st M k n) : V cl nL R Z pc lv (va :: st) M k n := fun H locs ls hl hm hS => lv_pop C.1 C.2.1 hdg h1 (kk H locs ls hl hm hS)
theorem v_dup_x1 (C : Cx T cl tys own cc nL ret Z) {va vb : Value} (hdg : decode cc pc = .ok (.dup_x1, 1)) (h1 : va.category = 1) (h2 : vb.category = 1) (kk : V cl nL R Z (pc + 1) lv (va :: vb :: va :: st) M k n) : V cl nL R Z pc lv (va :: vb :: st) M k n := fun H locs ls hl hm hS => lv_dup_x1 C.1 C.2.1 hdg h1 h2 (kk H locs ls hl hm hS)
theorem v_dup_x2 (C : Cx T cl tys own cc nL ret Z) {va vb vd : Value} (hdg : decode cc pc = .ok (.dup_x2, 1)) (h1 : va.category = 1) (h2 : vb.category = 1) (h3 : vd.category = 1) (kk : V cl nL R Z (pc + 1) lv (va :: vb :: vd :: va :: st) M k n) : V cl nL R Z pc lv (va :: vb :: vd :: st) M k n := fun H locs ls hl hm hS => lv_dup_x2 C.1 C.2.1 hdg h1 h2 h3 (kk H locs ls hl hm hS)
theorem v_dup2_11 (C : Cx T cl tys own cc nL ret Z) {va vb : Value} (hdg : decode cc pc = .ok (.dup2, 1)) (h1 : va.category = 1) (h2 : vb.category = 1) (kk : V cl nL R Z (pc + 1) lv (va :: vb :: va :: vb :: st) M k n) : V cl nL R Z pc lv (va :: vb :: st) M k n := fun H locs ls hl hm hS => lv_dup2_11 C.1 C.2.1 hdg h1 h2 (kk H locs ls hl hm hS)
theorem v_null (C : Cx T cl tys own cc nL ret Z)  (hdg : decode cc pc = .ok (.aconst_null, 1))  (kk : V cl nL R Z (pc + 1) lv (.null :: st) M k n) : V cl nL R Z pc lv st M k n := fun H locs ls hl hm hS => lv_null C.1 C.2.1 hdg (kk H locs ls hl hm hS)
theorem v_ifnull (C : Cx T cl tys own cc nL ret Z) {x : Nat} {off : Int} (hdg : decode cc pc = .ok (.ifnull off, 3))  (kk : V cl nL R Z (pc + 3) lv st M k n) : V cl nL R Z pc lv (.ref x :: st) M k n := fun H locs ls hl hm hS => lv_ifnull C.1 C.2.1 hdg (kk H locs ls hl hm hS)
theorem v_ifnonnullN (C : Cx T cl tys own cc nL ret Z) {off : Int} (hdg : decode cc pc = .ok (.ifnonnull off, 3))  (kk : V cl nL R Z (pc + 3) lv st M k n) : V cl nL R Z pc lv (.null :: st) M k n := fun H locs ls hl hm hS => lv_ifnonnullN C.1 C.2.1 hdg (kk H locs ls hl hm hS)
theorem v_goto (C : Cx T cl tys own cc nL ret Z)  {off : Int} (tgt : Nat) (hdg : decode cc pc = .ok (.goto off, 3)) (ht : (pc : Int) + off = (tgt : Int)) (kk : V cl nL R Z tgt lv st M k n) : V cl nL R Z pc lv st M k n := fun H locs ls hl hm hS => lv_goto C.1 C.2.1 hdg ht (kk H locs ls hl hm hS)
theorem v_ifnonnull (C : Cx T cl tys own cc nL ret Z) {x : Nat} {off : Int} (tgt : Nat) (hdg : decode cc pc = .ok (.ifnonnull off, 3)) (ht : (pc : Int) + off = (tgt : Int)) (kk : V cl nL R Z tgt lv st M k n) : V cl nL R Z pc lv (.ref x :: st) M k n := fun H locs ls hl hm hS => lv_ifnonnull C.1 C.2.1 hdg ht (kk H locs ls hl hm hS)
theorem v_ifnullN (C : Cx T cl tys own cc nL ret Z)  {off : Int} (tgt : Nat) (hdg : decode cc pc = .ok (.ifnull off, 3)) (ht : (pc : Int) + off = (tgt : Int)) (kk : V cl nL R Z tgt lv st M k n) : V cl nL R Z pc lv (.null :: st) M k n := fun H locs ls hl hm hS => lv_ifnullN C.1 C.2.1 hdg ht (kk H locs ls hl hm hS)
theorem v_if_eq (C : Cx T cl tys own cc nL ret Z) {x : Int32} {off : Int} (tgt : Nat) (hdg : decode cc pc = .ok (.ifCond .eq off, 3)) (ht : (pc : Int) + off = (tgt : Int)) (kt : x = 0 → V cl nL R Z tgt lv st M k n) (kf : ¬ x = 0 → V cl nL R Z (pc + 3) lv st M k n) : V cl nL R Z pc lv (.int x :: st) M k n := fun H locs ls hl hm hS => lv_if_eq C.1 C.2.1 hdg ht (fun q => kt q H locs ls hl hm hS) (fun q => kf q H locs ls hl hm hS)
theorem v_if_lt (C : Cx T cl tys own cc nL ret Z) {x : Int32} {off : Int} (tgt : Nat) (hdg : decode cc pc = .ok (.ifCond .lt off, 3)) (ht : (pc : Int) + off = (tgt : Int)) (kt : x < 0 → V cl nL R Z tgt lv st M k n) (kf : ¬ x < 0 → V cl nL R Z (pc + 3) lv st M k n) : V cl nL R Z pc lv (.int x :: st) M k n := fun H locs ls hl hm hS => lv_if_lt C.1 C.2.1 hdg ht (fun q => kt q H locs ls hl hm hS) (fun q => kf q H locs ls hl hm hS)
theorem v_if_ge (C : Cx T cl tys own cc nL ret Z) {x : Int32} {off : Int} (tgt : Nat) (hdg : decode cc pc = .ok (.ifCond .ge off, 3)) (ht : (pc : Int) + off = (tgt : Int)) (kt : 0 ≤ x → V cl nL R Z tgt lv st M k n) (kf : ¬ 0 ≤ x → V cl nL R Z (pc + 3) lv st M k n) : V cl nL R Z pc lv (.int x :: st) M k n := fun H locs ls hl hm hS => lv_if_ge C.1 C.2.1 hdg ht (fun q => kt q H locs ls hl hm hS) (fun q => kf q H locs ls hl hm hS)
theorem v_if_gt (C : Cx T cl tys own cc nL ret Z) {x : Int32} {off : Int} (tgt : Nat) (hdg : decode cc pc = .ok (.ifCond .gt off, 3)) (ht : (pc : Int) + off = (tgt : Int)) (kt : 0 < x → V cl nL R Z tgt lv st M k n) (kf : ¬ 0 < x → V cl nL R Z (pc + 3) lv st M k n) : V cl nL R Z pc lv (.int x :: st) M k n := fun H locs ls hl hm hS => lv_if_gt C.1 C.2.1 hdg ht (fun q => kt q H locs ls hl hm hS) (fun q => kf q H locs ls hl hm hS)
theorem v_if_le (C : Cx T cl tys own cc nL ret Z) {x : Int32} {off : Int} (tgt : Nat) (hdg : decode cc pc = .ok (.ifCond .le off, 3)) (ht : (pc : Int) + off = (tgt : Int)) (kt : x ≤ 0 → V cl nL R Z tgt lv st M k n) (kf : ¬ x ≤ 0 → V cl nL R Z (pc + 3) lv st M k n) : V cl nL R Z pc lv (.int x :: st) M k n := fun H locs ls hl hm hS => lv_if_le C.1 C.2.1 hdg ht (fun q => kt q H locs ls hl hm hS) (fun q => kf q H locs ls hl hm hS)
theorem v_if_ne (C : Cx T cl tys own cc nL ret Z) {x : Int32} {off : Int} (tgt : Nat) (hdg : decode cc pc = .ok (.ifCond .ne off, 3)) (ht : (pc : Int) + off = (tgt : Int)) (kt : ¬ x = 0 → V cl nL R Z tgt lv st M k n) (kf : x = 0 → V cl nL R Z (pc + 3) lv st M k n) : V cl nL R Z pc lv (.int x :: st) M k n := fun H locs ls hl hm hS => lv_if_ne C.1 C.2.1 hdg ht (fun q => kt q H locs ls hl hm hS) (fun q => kf q H locs ls hl hm hS)
theorem v_icmp_eq (C : Cx T cl tys own cc nL ret Z) {x y : Int32} {off : Int} (tgt : Nat) (hdg : decode cc pc = .ok (.if_icmp .eq off, 3)) (ht : (pc : Int) + off = (tgt : Int)) (kt : x = y → V cl nL R Z tgt lv st M k n) (kf : ¬ x = y → V cl nL R Z (pc + 3) lv st M k n) : V cl nL R Z pc lv (.int y :: .int x :: st) M k n := fun H locs ls hl hm hS => lv_icmp_eq C.1 C.2.1 hdg ht (fun q => kt q H locs ls hl hm hS) (fun q => kf q H locs ls hl hm hS)
theorem v_icmp_lt (C : Cx T cl tys own cc nL ret Z) {x y : Int32} {off : Int} (tgt : Nat) (hdg : decode cc pc = .ok (.if_icmp .lt off, 3)) (ht : (pc : Int) + off = (tgt : Int)) (kt : x < y → V cl nL R Z tgt lv st M k n) (kf : ¬ x < y → V cl nL R Z (pc + 3) lv st M k n) : V cl nL R Z pc lv (.int y :: .int x :: st) M k n := fun H locs ls hl hm hS => lv_icmp_lt C.1 C.2.1 hdg ht (fun q => kt q H locs ls hl hm hS) (fun q => kf q H locs ls hl hm hS)
theorem v_icmp_ge (C : Cx T cl tys own cc nL ret Z) {x y : Int32} {off : Int} (tgt : Nat) (hdg : decode cc pc = .ok (.if_icmp .ge off, 3)) (ht : (pc : Int) + off = (tgt : Int)) (kt : y ≤ x → V cl nL R Z tgt lv st M k n) (kf : ¬ y ≤ x → V cl nL R Z (pc + 3) lv st M k n) : V cl nL R Z pc lv (.int y :: .int x :: st) M k n := fun H locs ls hl hm hS => lv_icmp_ge C.1 C.2.1 hdg ht (fun q => kt q H locs ls hl hm hS) (fun q => kf q H locs ls hl hm hS)
theorem v_icmp_gt (C : Cx T cl tys own cc nL ret Z) {x y : Int32} {off : Int} (tgt : Nat) (hdg : decode cc pc = .ok (.if_icmp .gt off, 3)) (ht : (pc : Int) + off = (tgt : Int)) (kt : y < x → V cl nL R Z tgt lv st M k n) (kf : ¬ y < x → V cl nL R Z (pc + 3) lv st M k n) : V cl nL R Z pc lv (.int y :: .int x :: st) M k n := fun H locs ls hl hm hS => lv_icmp_gt C.1 C.2.1 hdg ht (fun q => kt q H locs ls hl hm hS) (fun q => kf q H locs ls hl hm hS)
theorem v_icmp_le (C : Cx T cl tys own cc nL ret Z) {x y : Int32} {off : Int} (tgt : Nat) (hdg : decode cc pc = .ok (.if_icmp .le off, 3)) (ht : (pc : Int) + off = (tgt : Int)) (kt : x ≤ y → V cl nL R Z tgt lv st M k n) (kf : ¬ x ≤ y → V cl nL R Z (pc + 3) lv st M k n) : V cl nL R Z pc lv (.int y :: .int x :: st) M k n := fun H locs ls hl hm hS => lv_icmp_le C.1 C.2.1 hdg ht (fun q => kt q H locs ls hl hm hS) (fun q => kf q H locs ls hl hm hS)
theorem v_icmp_ne (C : Cx T cl tys own cc nL ret Z) {x y : Int32} {off : Int} (tgt : Nat) (hdg : decode cc pc = .ok (.if_icmp .ne off, 3)) (ht : (pc : Int) + off = (tgt : Int)) (kt : ¬ x = y → V cl nL R Z tgt lv st M k n) (kf : x = y → V cl nL R Z (pc + 3) lv st M k n) : V cl nL R Z pc lv (.int y :: .int x :: st) M k n := fun H locs ls hl hm hS => lv_icmp_ne C.1 C.2.1 hdg ht (fun q => kt q H locs ls hl hm hS) (fun q => kf q H locs ls hl hm hS)
theorem v_tableOut (C : Cx T cl tys own cc nL ret Z) {dflt lo hi : Int} {offs : Array Int} {len : Nat} {x : Int32} (tgt : Nat) (hdg : decode cc pc = .ok (.tableswitch dflt lo hi offs, len)) (h : x.toInt < lo ∨ hi < x.toInt) (ht : (pc : Int) + dflt = (tgt : Int)) (kk : V cl nL R Z tgt lv st M k n) : V cl nL R Z pc lv (.int x :: st) M k n := fun H locs ls hl hm hS => lv_tableOut C.1 C.2.1 hdg h ht (kk H locs ls hl hm hS)
theorem v_tableIn (C : Cx T cl tys own cc nL ret Z) {dflt lo hi : Int} {offs : Array Int} {len : Nat} {x : Int32} {off : Int} (tgt : Nat) (hdg : decode cc pc = .ok (.tableswitch dflt lo hi offs, len)) (h1 : ¬ x.toInt < lo) (h2 : ¬ hi < x.toInt) (ho : offs[(x.toInt - lo).toNat]? = some off) (ht : (pc : Int) + off = (tgt : Int)) (kk : V cl nL R Z tgt lv st M k n) : V cl nL R Z pc lv (.int x :: st) M k n := fun H locs ls hl hm hS => lv_tableIn C.1 C.2.1 hdg h1 h2 ho ht (kk H locs ls hl hm hS)
theorem v_lookup (C : Cx T cl tys own cc nL ret Z) {dflt : Int} {ps : Array (Int × Int)} {len : Nat} {x : Int32} {off : Int} (tgt : Nat) (hdg : decode cc pc = .ok (.lookupswitch dflt ps, len)) (hp : (ps.toList.zip (ps.toList.drop 1)).all (fun (a, next) => a.1 < next.1) = true) (ho : Op.lookupswitch.offset ps.toList dflt x.toInt = off) (ht : (pc : Int) + off = (tgt : Int)) (kk : V cl nL R Z tgt lv st M k n) : V cl nL R Z pc lv (.int x :: st) M k n := fun H locs ls hl hm hS => lv_lookup C.1 C.2.1 hdg hp ho ht (kk H locs ls hl hm hS)
theorem v_ldc (C : Cx T cl tys own cc nL ret Z) {i : Nat} {v : Int32} (hdg : decode cc pc = .ok (.ldc i, 2)) (hw : Cond.constant own i v ∈ T) (kk : V cl nL R Z (pc + 2) lv (.int v :: st) M k n) : V cl nL R Z pc lv st M k n := fun H locs ls hl hm hS => lv_ldc C.1 C.2.1 C.2.2.2.1 (C.2.2.2.2.2.2.2.2.2 _ hw Z.args) hdg (kk H locs ls hl hm hS)
theorem v_ldcw (C : Cx T cl tys own cc nL ret Z) {i : Nat} {v : Int32} (hdg : decode cc pc = .ok (.ldc_w i, 3)) (hw : Cond.constant own i v ∈ T) (kk : V cl nL R Z (pc + 3) lv (.int v :: st) M k n) : V cl nL R Z pc lv st M k n := fun H locs ls hl hm hS => lv_ldcw C.1 C.2.1 C.2.2.2.1 (C.2.2.2.2.2.2.2.2.2 _ hw Z.args) hdg (kk H locs ls hl hm hS)
theorem v_ldc2 (C : Cx T cl tys own cc nL ret Z) {i : Nat} {v : Int64} (hdg : decode cc pc = .ok (.ldc2_w i, 3)) (hw : Cond.constantLong own i v ∈ T) (kk : V cl nL R Z (pc + 3) lv (.long v :: st) M k n) : V cl nL R Z pc lv st M k n := fun H locs ls hl hm hS => lv_ldc2 C.1 C.2.1 C.2.2.2.1 (C.2.2.2.2.2.2.2.2.2 _ hw Z.args) hdg (kk H locs ls hl hm hS)
theorem v_get (C : Cx T cl tys own cc nL ret Z) {ref Cn : String} {Tf : u_T} {N ci index a : Nat} (hin : ∀ w ∈ u_ws Cn Tf N, w ∈ T) {fs : List Value} (he : M a = some (ob ci fs)) (hc : cl[ci]? = some (Cn, Tf, N)) (j : Nat) (hj : j < N) (hlink : Cond.fieldLink own index ref (Tf j).2.1 (Tf j).2.2.1 ∈ T) (hsame : (Tf j).1 = ref) {v : Value} (hv : fs[j]? = some v) (hdg : decode cc pc = .ok (.getfield index, 3)) (kk : V cl nL R Z (pc + 3) lv (v :: st) M k n) : V cl nL R Z pc lv (.ref a :: st) M k n := fun H locs ls hl hm hS =>
  va_get C.1 C.2.1 (fun w h => C.2.2.2.2.2.2.2.2.2 w h Z.args) hin C.2.2.2.1 C.2.2.2.2.2.2.2.2.1 (hm.one he) 0 rfl hc j hj (C.2.2.2.2.2.2.2.2.2 _ hlink Z.args) (fun _ h => by rw [← hsame]; exact h) hv hdg (kk H locs ls hl hm hS)
theorem v_put (C : Cx T cl tys own cc nL ret Z) {ref Cn : String} {Tf : u_T} {N ci index a : Nat} (hin : ∀ w ∈ u_ws Cn Tf N, w ∈ T) (ty0 : Nat → FieldType) (hty : ∀ j, j < N → parseFieldDescriptor (Tf j).2.2.1 = some (ty0 j)) (hnm : ∀ a, a < N → ∀ b, b < N → a ≠ b → (Tf a).2.1 ≠ (Tf b).2.1) {fs fs' : List Value} (he : M a = some (ob ci fs)) (hc : cl[ci]? = some (Cn, Tf, N)) (j : Nat) (hj : j < N) (hlink : Cond.fieldLink own index ref (Tf j).2.1 (Tf j).2.2.1 ∈ T) (hsame : (Tf j).1 = ref) (hfin : (Tf j).2.2.2 = false) {v : Value} (hn : narrow (ty0 j) v = v) (hfit : fits (ty0 j) v = true) (hl : j < fs.length) (hset : fs.set j v = fs') (hdg : decode cc pc = .ok (.putfield index, 3)) (kk : V cl nL R Z (pc + 3) lv st (mset M a (ob ci fs')) k n) : V cl nL R Z pc lv (v :: .ref a :: st) M k n := by
  subst hset
  intro H locs ls hl0 hm hS0
  have hexec := C.1
  have hb := C.2.1
  have hown := C.2.2.2.1
  have hts : ∀ w ∈ T, w.before Z.args Z.s = true := fun w h => C.2.2.2.2.2.2.2.2.2 w h Z.args
  have hK := C.2.2.2.2.2.2.2.2.1
  have hlink := hts _ hlink
  have hsame : ∀ x, Z.s.fieldFound? (Tf j).1 (Tf j).2.1 (Tf j).2.2.1 = some x → Z.s.fieldFound? ref (Tf j).2.1 (Tf j).2.2.1 = some x := fun _ h => by rw [← hsame]; exact h
  have hap := va_apart (own := own) hts hin ty0 hty hnm hK hc
  obtain ⟨r, h1, cell, q1, q2, q3, q4⟩ := (hm a _ he).2
  have hr : r = (Cn, Tf, N) := Option.some.inj (h1.symm.trans hc)
  subst hr
  obtain ⟨hS, hfc, kC, hkC, hkind⟩ := hK.1 ci _ hc
  obtain ⟨cf, kf, fi, f, hi, hsl⟩ := hS j hj
  have hlay := hts _ (hin _ (u_in_lay hj))
  unfold u_lay at hlay
  rw [if_neg (by rw [hfin]; decide)] at hlay
  have hst := (u_facts hfc hkC (u_lays hts hin hj) hi).1
  have h6 := u_store hfc hkC hkind hlay hi (hty j hj) hn hfit
  refine W.putK hexec hb (f := f) ⟨hown, hlink, ⟨_, _, _, hsame _ hi⟩, hst⟩ (by rw [q2]; exact h6) q1 q3 (by rw [hsl]; exact k2_hasslot (q4 j hj)) rfl rfl hdg fun H' e1 e2 e3 => ?_
  rw [hsl] at e1 ⊢
  exact kk H' _ ls hl0 (hm.set (hm a _ he).1 ⟨_, hc, t_OB.to (V := updV (vp_V fs) j v) ⟨_, e1, q2, q3, t_set q4 hap hj v⟩ (fun i _ => vp_updV_set hl v i)⟩ e3) (hS0.put e2 e3 (hm a _ he).1)
theorem v_getN (C : Cx T cl tys own cc nL ret Z) {ref Cn host : String} {Tf : u_T} {N ci index a : Nat} (hin : ∀ w ∈ u_ws Cn Tf N, w ∈ T) {fs : List Value} (he : M a = some (ob ci fs)) (hc : cl[ci]? = some (Cn, Tf, N)) (j : Nat) (hj : j < N) (hlink : Cond.fieldLinkNest own index ref (Tf j).2.1 (Tf j).2.2.1 host ∈ T) (hsame : (Tf j).1 = ref) {v : Value} (hv : fs[j]? = some v) (hdg : decode cc pc = .ok (.getfield index, 3)) (kk : V cl nL R Z (pc + 3) lv (v :: st) M k n) : V cl nL R Z pc lv (.ref a :: st) M k n := fun H locs ls hl hm hS =>
  va_getN C.1 C.2.1 (fun w h => C.2.2.2.2.2.2.2.2.2 w h Z.args) hin C.2.2.2.1 C.2.2.2.2.2.2.2.2.1 (hm.one he) 0 rfl hc j hj (C.2.2.2.2.2.2.2.2.2 _ hlink Z.args) (fun _ h => by rw [← hsame]; exact h) hv hdg (kk H locs ls hl hm hS)
theorem v_putN (C : Cx T cl tys own cc nL ret Z) {ref Cn host : String} {Tf : u_T} {N ci index a : Nat} (hin : ∀ w ∈ u_ws Cn Tf N, w ∈ T) (ty0 : Nat → FieldType) (hty : ∀ j, j < N → parseFieldDescriptor (Tf j).2.2.1 = some (ty0 j)) (hnm : ∀ a, a < N → ∀ b, b < N → a ≠ b → (Tf a).2.1 ≠ (Tf b).2.1) {fs fs' : List Value} (he : M a = some (ob ci fs)) (hc : cl[ci]? = some (Cn, Tf, N)) (j : Nat) (hj : j < N) (hlink : Cond.fieldLinkNest own index ref (Tf j).2.1 (Tf j).2.2.1 host ∈ T) (hsame : (Tf j).1 = ref) (hfin : (Tf j).2.2.2 = false) {v : Value} (hn : narrow (ty0 j) v = v) (hfit : fits (ty0 j) v = true) (hl : j < fs.length) (hset : fs.set j v = fs') (hdg : decode cc pc = .ok (.putfield index, 3)) (kk : V cl nL R Z (pc + 3) lv st (mset M a (ob ci fs')) k n) : V cl nL R Z pc lv (v :: .ref a :: st) M k n := by
  subst hset
  intro H locs ls hl0 hm hS0
  have hexec := C.1
  have hb := C.2.1
  have hown := C.2.2.2.1
  have hts : ∀ w ∈ T, w.before Z.args Z.s = true := fun w h => C.2.2.2.2.2.2.2.2.2 w h Z.args
  have hK := C.2.2.2.2.2.2.2.2.1
  have hlink := hts _ hlink
  have hsame : ∀ x, Z.s.fieldFound? (Tf j).1 (Tf j).2.1 (Tf j).2.2.1 = some x → Z.s.fieldFound? ref (Tf j).2.1 (Tf j).2.2.1 = some x := fun _ h => by rw [← hsame]; exact h
  have hap := va_apart (own := own) hts hin ty0 hty hnm hK hc
  obtain ⟨r, h1, cell, q1, q2, q3, q4⟩ := (hm a _ he).2
  have hr : r = (Cn, Tf, N) := Option.some.inj (h1.symm.trans hc)
  subst hr
  obtain ⟨hS, hfc, kC, hkC, hkind⟩ := hK.1 ci _ hc
  obtain ⟨cf, kf, fi, f, hi, hsl⟩ := hS j hj
  have hlay := hts _ (hin _ (u_in_lay hj))
  unfold u_lay at hlay
  rw [if_neg (by rw [hfin]; decide)] at hlay
  have hst := (u_facts hfc hkC (u_lays hts hin hj) hi).1
  have h6 := u_store hfc hkC hkind hlay hi (hty j hj) hn hfit
  refine va_WputK hexec hb (f := f) hown hlink (hsame _ hi) hst (by rw [q2]; exact h6) q1 q3 (by rw [hsl]; exact k2_hasslot (q4 j hj)) rfl rfl hdg fun H' e1 e2 e3 => ?_
  rw [hsl] at e1 ⊢
  exact kk H' _ ls hl0 (hm.set (hm a _ he).1 ⟨_, hc, t_OB.to (V := updV (vp_V fs) j v) ⟨_, e1, q2, q3, t_set q4 hap hj v⟩ (fun i _ => vp_updV_set hl v i)⟩ e3) (hS0.put e2 e3 (hm a _ he).1)
theorem v_putF (C : Cx T cl tys own cc nL ret Z) {ref Cn : String} {Tf : u_T} {N ci index a : Nat} (hin : ∀ w ∈ u_ws Cn Tf N, w ∈ T) (ty0 : Nat → FieldType) (hty : ∀ j, j < N → parseFieldDescriptor (Tf j).2.2.1 = some (ty0 j)) (hnm : ∀ a, a < N → ∀ b, b < N → a ≠ b → (Tf a).2.1 ≠ (Tf b).2.1) {fs fs' : List Value} (he : M a = some (ob ci fs)) (hc : cl[ci]? = some (Cn, Tf, N)) (j : Nat) (hj : j < N) (hlink : Cond.fieldLink own index ref (Tf j).2.1 (Tf j).2.2.1 ∈ T) (hsame : (Tf j).1 = ref) (hfin : (Tf j).2.2.2 = true) (hin2 : Z.meth.name = "<init>") (hdecl : (Tf j).1 = own) {v : Value} (hn : narrow (ty0 j) v = v) (hfit : fits (ty0 j) v = true) (hl : j < fs.length) (hset : fs.set j v = fs') (hdg : decode cc pc = .ok (.putfield index, 3)) (kk : V cl nL R Z (pc + 3) lv st (mset M a (ob ci fs')) k n) : V cl nL R Z pc lv (v :: .ref a :: st) M k n := by
  subst hset
  intro H locs ls hl0 hm hS0
  have hexec := C.1
  have hb := C.2.1
  have hown := C.2.2.2.1
  have hts : ∀ w ∈ T, w.before Z.args Z.s = true := fun w h => C.2.2.2.2.2.2.2.2.2 w h Z.args
  have hK := C.2.2.2.2.2.2.2.2.1
  have hlink := hts _ hlink
  have hsame : ∀ x, Z.s.fieldFound? (Tf j).1 (Tf j).2.1 (Tf j).2.2.1 = some x → Z.s.fieldFound? ref (Tf j).2.1 (Tf j).2.2.1 = some x := fun _ h => by rw [← hsame]; exact h
  have hap := va_apart (own := own) hts hin ty0 hty hnm hK hc
  obtain ⟨r, h1, cell, q1, q2, q3, q4⟩ := (hm a _ he).2
  have hr : r = (Cn, Tf, N) := Option.some.inj (h1.symm.trans hc)
  subst hr
  obtain ⟨hS, hfc, kC, hkC, hkind⟩ := hK.1 ci _ hc
  obtain ⟨cf, kf, fi, f, hi, hsl⟩ := hS j hj
  have hlay := hts _ (hin _ (u_in_lay hj))
  unfold u_lay at hlay
  rw [if_pos hfin] at hlay
  have hst := (u_facts hfc hkC (u_lays hts hin hj) hi).1
  have hcf : Z.m.cls = cf := by
    obtain ⟨_, _, c', _, _, _, -, -, hf', -, -, -, hown2, -⟩ := Cond.laysFinal_spec hlay
    have e1 : c' = cf := by have := hi.symm.trans hf'; simp at this; exact this.1.symm
    rw [hdecl] at hown2
    rw [← e1]; exact Option.some.inj (hown.symm.trans hown2)
  have h6 := u_fits hfc hkC hkind (Or.inr hlay) hi (hty j hj) hn hfit
  refine W.putFinK hexec hb hown hlink (hsame _ hi) hst hcf hin2 (by rw [q2]; exact h6) q1 q3 (by rw [hsl]; exact k2_hasslot (q4 j hj)) rfl rfl hdg fun H' e1 e2 e3 => ?_
  rw [hsl] at e1 ⊢
  exact kk H' _ ls hl0 (hm.set (hm a _ he).1 ⟨_, hc, t_OB.to (V := updV (vp_V fs) j v) ⟨_, e1, q2, q3, t_set q4 hap hj v⟩ (fun i _ => vp_updV_set hl v i)⟩ e3) (hS0.put e2 e3 (hm a _ he).1)
theorem v_iald (C : Cx T cl tys own cc nL ret Z) {a : Nat} (t0 : Nat) {cA : ClassId} {N : Nat} {f : Nat → Int32} (he : M a = some (aI cA N f)) (ht : tys[t0]? = some (cA, .int)) {i : Int32} (hin : vp_in i N) (hdg : decode cc pc = .ok (.iaload, 1)) (kk : V cl nL R Z (pc + 1) lv (.int (f i.toNatClampNeg) :: st) M k n) : V cl nL R Z pc lv (.int i :: .ref a :: st) M k n := fun H locs ls hl hm hS => va_iald C.1 C.2.1 C.2.2.2.2.2.2.2.2.1 (hm.one he) 0 t0 rfl ht hin hdg (kk H locs ls hl hm hS)
theorem v_lald (C : Cx T cl tys own cc nL ret Z) {a : Nat} (t0 : Nat) {cA : ClassId} {N : Nat} {f : Nat → Int64} (he : M a = some (aL cA N f)) (ht : tys[t0]? = some (cA, .long)) {i : Int32} (hin : vp_in i N) (hdg : decode cc pc = .ok (.laload, 1)) (kk : V cl nL R Z (pc + 1) lv (.long (f i.toNatClampNeg) :: st) M k n) : V cl nL R Z pc lv (.int i :: .ref a :: st) M k n := fun H locs ls hl hm hS => va_lald C.1 C.2.1 C.2.2.2.2.2.2.2.2.1 (hm.one he) 0 t0 rfl ht hin hdg (kk H locs ls hl hm hS)
theorem v_aldq (C : Cx T cl tys own cc nL ret Z) {a : Nat} (t0 : Nat) {cA : ClassId} {Cn : String} {N : Nat} {f : Nat → Option Nat} (he : M a = some (aQ cA N f)) (ht : tys[t0]? = some (cA, .object Cn)) {i : Int32} (hin : vp_in i N) {v : Value} (hv : va_rf (f i.toNatClampNeg) = v) (hdg : decode cc pc = .ok (.aaload, 1)) (kk : V cl nL R Z (pc + 1) lv (v :: st) M k n) : V cl nL R Z pc lv (.int i :: .ref a :: st) M k n := fun H locs ls hl hm hS => va_aldq C.1 C.2.1 C.2.2.2.2.2.2.2.2.1 (hm.one he) 0 t0 rfl ht hin hdg (by rw [hv]; exact kk H locs ls hl hm hS)
theorem v_alen (C : Cx T cl tys own cc nL ret Z) {a : Nat} (t0 : Nat) {cA : ClassId} {x : vp_A} (he : M a = some (.inl (cA, x))) {ty : FieldType} (ht : tys[t0]? = some (cA, ty)) {v : Int32} (hv : Int32.ofNat x.1 = v) (hdg : decode cc pc = .ok (.arraylength, 1)) (kk : V cl nL R Z (pc + 1) lv (.int v :: st) M k n) : V cl nL R Z pc lv (.ref a :: st) M k n := fun H locs ls hl hm hS => va_alen C.1 C.2.1 C.2.2.2.2.2.2.2.2.1 (hm.one he) 0 t0 rfl ht hv hdg (kk H locs ls hl hm hS)
theorem v_iast (C : Cx T cl tys own cc nL ret Z) {a : Nat} (t0 : Nat) {cA : ClassId} {N : Nat} {f : Nat → Int32} (he : M a = some (aI cA N f)) (ht : tys[t0]? = some (cA, .int)) {i x : Int32} (hin : vp_in i N) (hdg : decode cc pc = .ok (.iastore, 1)) (kk : V cl nL R Z (pc + 1) lv st (mset M a (aI cA N (upd f i.toNatClampNeg x))) k n) : V cl nL R Z pc lv (.int x :: .int i :: .ref a :: st) M k n := by
  intro H locs ls hl hm hS
  refine W.iast C.1 C.2.1 (hm a _ he).2 ((C.2.2.2.2.2.2.2.2.1.2 t0 _ ht).1 N (fun j => .int (f j))) (fun q => by cases q) (by show ¬ (i < 0 ∨ (arrV _ _ _).slots.size ≤ _); rw [arrV_size]; exact hin) rfl rfl hdg fun H1 e1 z oq => ?_
  refine kk H1 _ ls hl (hm.set (hm a _ he).1 ?_ oq) (hS.put z oq (hm a _ he).1)
  show H1[a]? = some (vp_cell _ _)
  rw [e1, vp_cell_i, vp_cell_i, arrV_store]
  congr 2
  funext q
  by_cases hq : q = i.toNatClampNeg
  · subst hq
    simp [updV, upd]
  · simp [updV, upd, hq]
theorem v_last (C : Cx T cl tys own cc nL ret Z) {a : Nat} (t0 : Nat) {cA : ClassId} {N : Nat} {f : Nat → Int64} (he : M a = some (aL cA N f)) (ht : tys[t0]? = some (cA, .long)) {i : Int32} {x : Int64} (hin : vp_in i N) (hdg : decode cc pc = .ok (.lastore, 1)) (kk : V cl nL R Z (pc + 1) lv st (mset M a (aL cA N (vp_updL f i.toNatClampNeg x))) k n) : V cl nL R Z pc lv (.long x :: .int i :: .ref a :: st) M k n := by
  intro H locs ls hl hm hS
  refine W.last C.1 C.2.1 (hm a _ he).2 ((C.2.2.2.2.2.2.2.2.1.2 t0 _ ht).1 N (fun j => .long (f j))) (fun q => by cases q) (by show ¬ (i < 0 ∨ (arrV _ _ _).slots.size ≤ _); rw [arrV_size]; exact hin) rfl rfl hdg fun H1 e1 z oq => ?_
  refine kk H1 _ ls hl (hm.set (hm a _ he).1 ?_ oq) (hS.put z oq (hm a _ he).1)
  show H1[a]? = some (vp_cell _ _)
  rw [e1, vp_cell_l, vp_cell_l, arrV_store]
  congr 2
  funext q
  by_cases hq : q = i.toNatClampNeg
  · subst hq
    simp [updV, vp_updL]
  · simp [updV, vp_updL, hq]
theorem v_astq (C : Cx T cl tys own cc nL ret Z) {a : Nat} (t0 ci : Nat) {cA : ClassId} {r : vw_C} {N v : Nat} {vs : List Value} {f : Nat → Option Nat} (he : M a = some (aQ cA N f)) (ht : tys[t0]? = some (cA, .object r.1)) (hv : M v = some (ob ci vs)) (hc : cl[ci]? = some r) {i : Int32} (hin : vp_in i N) (hdg : decode cc pc = .ok (.aastore, 1)) (kk : V cl nL R Z (pc + 1) lv st (mset M a (aQ cA N (va_up f i.toNatClampNeg (some v)))) k n) : V cl nL R Z pc lv (.ref v :: .int i :: .ref a :: st) M k n := by
  intro H locs ls hl hm hS
  have hK := C.2.2.2.2.2.2.2.2.1
  have hlt : i.toNatClampNeg < N := Nat.not_le.mp fun q => hin (Or.inr q)
  have h0 : ¬ i < 0 := fun q => hin (Or.inl q)
  obtain ⟨r', hr', cellV, g1, g2, g3, -⟩ := (hm v _ hv).2
  have hcls := (hK.1 ci r hc).2
  obtain ⟨kA, comp, k1, k2, k3, -⟩ := (hK.2 t0 _ ht).2
  have hcomp : comp = Z.D.1 ci := Option.some.inj (k3.symm.trans hcls.1)
  subst hcomp
  obtain ⟨kC, hkC, -⟩ := hcls.2
  refine W.aast C.1 C.2.1 (hm a _ he).2 (fun q h => by cases h) (fun h => by cases h) k1 k2 rfl hkC ⟨h0, by show _ < (arrV _ _ _).slots.size; rw [arrV_size]; exact hlt⟩ g1 (fun q h => by rw [g3] at h; cases h) (by rw [g2]; exact hkC) (by rw [g2]; exact va_assign hcls) rfl rfl hdg fun H1 e1 z oq => ?_
  refine kk H1 _ ls hl (hm.set (hm a _ he).1 ?_ oq) (hS.put z oq (hm a _ he).1)
  show H1[a]? = some (vp_cell _ _)
  rw [e1, vp_cell_q, vp_cell_q, arrV_store]
  congr 2
  funext q
  by_cases hq : q = i.toNatClampNeg
  · subst hq
    simp [updV, va_up, va_rf]
  · simp [updV, va_up, hq]
theorem v_new (C : Cx T cl tys own cc nL ret Z) {Cn : String} {Tf : u_T} {N ci index : Nat} (hin : ∀ w ∈ u_ws Cn Tf N, w ∈ T) (ty : Nat → FieldType) (hty : ∀ j, j < N → parseFieldDescriptor (Tf j).2.2.1 = some (ty j)) (hcl : Cond.classLink own index Cn ∈ T) (hinst : Cond.instantiable Cn N ∈ T) (hini : Cond.initialized Cn ∈ T) (hc : cl[ci]? = some (Cn, Tf, N)) {fs : List Value} (hfs : ∀ j, j < N → defaultValue (ty j) = vp_V fs j) (hcells : k + 1 ≤ R.cells) (hslots : n + N ≤ R.slots) (hdg : decode cc pc = .ok (.new index, 3)) (kk : ∀ q : Nat, M q = none → (∀ (b : Nat) (x : va_E), M b = some x → b < q) → V cl nL R Z (pc + 3) lv (.ref q :: st) (mset M q (ob ci fs)) (k + 1) (n + N)) : V cl nL R Z pc lv st M k n := by
  intro H locs ls hl hm hS
  have hK := C.2.2.2.2.2.2.2.2.1
  have hts : ∀ w ∈ T, w.before Z.args Z.s = true := fun w h => C.2.2.2.2.2.2.2.2.2 w h Z.args
  have hKn := hK.1 ci _ hc
  refine W.newcK C.1 C.2.1 C.2.2.2.1 (hts _ hcl) (hts _ hinst) (hts _ hini) rfl hdg hcells hslots hKn.2.1 rfl fun H1 kC hkC e1 z1 o1 => ?_
  exact kk H.size hm.fresh (fun _ _ hb => hm.lt hb) H1 locs ls hl (hm.push (C.2.2.2.2.2.2.1 _ hS.1) ⟨_, hc, (u_born ty hts hin hKn hkC e1 hty).to hfs⟩ o1) ⟨Nat.le_trans hS.1 (by omega), fun x h1 h2 => (o1 x (Nat.lt_of_lt_of_le h1 hS.1)).trans (hS.2.1 x h1 h2), hS.2.2⟩
theorem v_newa (C : Cx T cl tys own cc nL ret Z) (hw : Cond.arrayClass .int ∈ T) (t0 : Nat) {cA : ClassId} (ht : tys[t0]? = some (cA, .int)) {z : Int32} {N : Nat} (hn : ¬ z < 0) (hN : z.toNatClampNeg = N) (hbytes : N * 4 ≤ 536870912) (hcells : k + 1 ≤ R.cells) (hslots : n + N ≤ R.slots) (hdg : decode cc pc = .ok (.newarray .int, 2)) (kk : ∀ q : Nat, M q = none → (∀ (b : Nat) (x : va_E), M b = some x → b < q) → V cl nL R Z (pc + 2) lv (.ref q :: st) (mset M q (aI cA N (fun _ => 0))) (k + 1) (n + N)) : V cl nL R Z pc lv (.int z :: st) M k n := by
  intro H locs ls hl hm hS
  have hK := C.2.2.2.2.2.2.2.2.1
  have hts : ∀ w ∈ T, w.before Z.args Z.s = true := fun w h => C.2.2.2.2.2.2.2.2.2 w h Z.args
  refine va_newaK C.1 C.2.1 (atype := .int) (hts _ hw) rfl hdg rfl hn hN hbytes hcells hslots rfl fun H1 cB e1 z1 o1 hAr hNm => ?_
  have hcc : cB = cA := Option.some.inj (hNm.symm.trans (hK.2 t0 _ ht).2)
  subst hcc
  refine kk H.size hm.fresh (fun _ _ hb => hm.lt hb) H1 locs ls hl (hm.push (C.2.2.2.2.2.2.1 _ hS.1) ?_ o1) ⟨Nat.le_trans hS.1 (by omega), fun x h1 h2 => (o1 x (Nat.lt_of_lt_of_le h1 hS.1)).trans (hS.2.1 x h1 h2), hS.2.2⟩
  show H1[H.size]? = some (vp_cell _ _)
  rw [e1, vp_cell_i]
  rfl
theorem v_newl (C : Cx T cl tys own cc nL ret Z) (hw : Cond.arrayClass .long ∈ T) (t0 : Nat) {cA : ClassId} (ht : tys[t0]? = some (cA, .long)) {z : Int32} {N : Nat} (hn : ¬ z < 0) (hN : z.toNatClampNeg = N) (hbytes : N * 8 ≤ 536870912) (hcells : k + 1 ≤ R.cells) (hslots : n + N ≤ R.slots) (hdg : decode cc pc = .ok (.newarray .long, 2)) (kk : ∀ q : Nat, M q = none → (∀ (b : Nat) (x : va_E), M b = some x → b < q) → V cl nL R Z (pc + 2) lv (.ref q :: st) (mset M q (aL cA N (fun _ => 0))) (k + 1) (n + N)) : V cl nL R Z pc lv (.int z :: st) M k n := by
  intro H locs ls hl hm hS
  have hK := C.2.2.2.2.2.2.2.2.1
  have hts : ∀ w ∈ T, w.before Z.args Z.s = true := fun w h => C.2.2.2.2.2.2.2.2.2 w h Z.args
  refine va_newaK C.1 C.2.1 (atype := .long) (hts _ hw) rfl hdg rfl hn hN hbytes hcells hslots rfl fun H1 cB e1 z1 o1 hAr hNm => ?_
  have hcc : cB = cA := Option.some.inj (hNm.symm.trans (hK.2 t0 _ ht).2)
  subst hcc
  refine kk H.size hm.fresh (fun _ _ hb => hm.lt hb) H1 locs ls hl (hm.push (C.2.2.2.2.2.2.1 _ hS.1) ?_ o1) ⟨Nat.le_trans hS.1 (by omega), fun x h1 h2 => (o1 x (Nat.lt_of_lt_of_le h1 hS.1)).trans (hS.2.1 x h1 h2), hS.2.2⟩
  show H1[H.size]? = some (vp_cell _ _)
  rw [e1, vp_cell_l]
  rfl
theorem v_newq (C : Cx T cl tys own cc nL ret Z) {Cn : String} {index : Nat} (hcl : Cond.classLink own index Cn ∈ T) (hover : Cond.arrayOver (.object Cn) ∈ T) (t0 : Nat) {cA : ClassId} (ht : tys[t0]? = some (cA, .object Cn)) {z : Int32} {N : Nat} (hn : ¬ z < 0) (hN : z.toNatClampNeg = N) (hbytes : N * 4 ≤ 536870912) (hcells : k + 1 ≤ R.cells) (hslots : n + N ≤ R.slots) (hdg : decode cc pc = .ok (.anewarray index, 3)) (kk : ∀ q : Nat, M q = none → (∀ (b : Nat) (x : va_E), M b = some x → b < q) → V cl nL R Z (pc + 3) lv (.ref q :: st) (mset M q (aQ cA N (fun _ => none))) (k + 1) (n + N)) : V cl nL R Z pc lv (.int z :: st) M k n := by
  intro H locs ls hl hm hS
  have hK := C.2.2.2.2.2.2.2.2.1
  have hts : ∀ w ∈ T, w.before Z.args Z.s = true := fun w h => C.2.2.2.2.2.2.2.2.2 w h Z.args
  subst hN
  refine W.anew C.1 C.2.1 C.2.2.2.1 (hts _ hcl) (hts _ hover) rfl hdg rfl hn hbytes hcells hslots fun cB kA comp f1 f2 f3 f4 => ?_
  obtain ⟨kA', comp', k1, k2, k3, k4⟩ := (hK.2 t0 _ ht).2
  have hcc : cB = cA := Option.some.inj (f1.symm.trans k4)
  subst hcc
  generalize hH1 : H.push ({ cls := cB, slots := Array.replicate z.toNatClampNeg .null, vm := .none } : Cell) = H1
  have z1 : H1.size = H.size + 1 := by rw [← hH1, Array.size_push]
  have e1 : H1[H.size]? = some (arrV cB z.toNatClampNeg (fun _ => .null)) := by rw [← hH1, Array.getElem?_push_size, ← arrV_new]
  have o1 : ∀ q : Nat, q < H.size → H1[q]? = H[q]? := fun q hq => by rw [← hH1, Array.getElem?_push, if_neg (Nat.ne_of_lt hq)]
  refine kk H.size hm.fresh (fun _ _ hb => hm.lt hb) H1 locs ls hl (hm.push (C.2.2.2.2.2.2.1 _ hS.1) ?_ o1) ⟨Nat.le_trans hS.1 (by omega), fun x h1 h2 => (o1 x (Nat.lt_of_lt_of_le h1 hS.1)).trans (hS.2.1 x h1 h2), hS.2.2⟩
  show H1[H.size]? = some (vp_cell _ _)
  rw [e1, vp_cell_q]
  rfl
theorem v_objInit (C : Cx T cl tys own cc nL ret Z) {idx a : Nat} (h1 : Cond.methodLink own idx Lib.objectInit ∈ T) (h2 : Cond.instanceMethod Lib.objectInit ∈ T) (h3 : Cond.code Lib.objectInit ⟨#[0xb1]⟩ 1 none ∈ T) (hfr : 1 ≤ R.frames) (hlo : (st.map fun v => v.category).sum + 12 ≤ R.locals) (hdg : decode cc pc = .ok (.invokespecial idx, 3)) (kk : V cl nL R Z (pc + 3) lv st M k n) : V cl nL R Z pc lv (.ref a :: st) M k n := fun H locs ls hl hm hS =>
  W.objInit C.1 C.2.1 C.2.2.2.1 (C.2.2.2.2.2.2.2.2.2 _ h1 Z.args) (C.2.2.2.2.2.2.2.2.2 _ h2 Z.args) (C.2.2.2.2.2.2.2.2.2 _ h3 Z.args) rfl (hl.1.trans C.2.2.1.symm) rfl hdg hfr (by show 2 * 0 + _ + 12 ≤ _; omega) (kk H locs ls hl hm hS)
theorem v_mmax (C : Cx T cl tys own cc nL ret Z) {idx : Nat} (h1 : Cond.methodLink own idx Lib.Math.max.name ∈ T) (h2 : Cond.static Lib.Math.max.name ∈ T) (h3 : Cond.initialized "java/lang/Math" ∈ T) (h4 : Cond.code Lib.Math.max.name Lib.Math.max.code 2 (some .int) ∈ T) (hfr : 1 ≤ R.frames) (hlo : (st.map fun v => v.category).sum + 13 ≤ R.locals) (hk : k ≤ R.cells) (hn : n ≤ R.slots) {x y : Int32} (hdg : decode cc pc = .ok (.invokestatic idx, 3)) (kk : V cl nL R Z (pc + 3) lv (.int (if x < y then y else x) :: st) M k n) : V cl nL R Z pc lv (.int y :: .int x :: st) M k n := fun H locs ls hl hm hS =>
  va_mmax C.1 C.2.1 (C.2.2.1.trans hl.1.symm) C.2.2.2.1 (C.2.2.2.2.2.2.2.2.2 _ h1 Z.args) (C.2.2.2.2.2.2.2.2.2 _ h2 Z.args) (C.2.2.2.2.2.2.2.2.2 _ h3 Z.args) (C.2.2.2.2.2.2.2.2.2 _ h4 Z.args) hfr hlo hk hn hdg (kk H locs ls hl hm hS)
theorem v_mmin (C : Cx T cl tys own cc nL ret Z) {idx : Nat} (h1 : Cond.methodLink own idx Lib.Math.min.name ∈ T) (h2 : Cond.static Lib.Math.min.name ∈ T) (h3 : Cond.initialized "java/lang/Math" ∈ T) (h4 : Cond.code Lib.Math.min.name Lib.Math.min.code 2 (some .int) ∈ T) (hfr : 1 ≤ R.frames) (hlo : (st.map fun v => v.category).sum + 13 ≤ R.locals) (hk : k ≤ R.cells) (hn : n ≤ R.slots) {x y : Int32} (hdg : decode cc pc = .ok (.invokestatic idx, 3)) (kk : V cl nL R Z (pc + 3) lv (.int (if y < x then y else x) :: st) M k n) : V cl nL R Z pc lv (.int y :: .int x :: st) M k n := fun H locs ls hl hm hS =>
  va_mmin C.1 C.2.1 (C.2.2.1.trans hl.1.symm) C.2.2.2.1 (C.2.2.2.2.2.2.2.2.2 _ h1 Z.args) (C.2.2.2.2.2.2.2.2.2 _ h2 Z.args) (C.2.2.2.2.2.2.2.2.2 _ h3 Z.args) (C.2.2.2.2.2.2.2.2.2 _ h4 Z.args) hfr hlo hk hn hdg (kk H locs ls hl hm hS)
theorem v_zald (C : Cx T cl tys own cc nL ret Z) {a : Nat} (t0 : Nat) {cA : ClassId} {N : Nat} {f : Nat → Int32} (he : M a = some (aI cA N f)) (ht : tys[t0]? = some (cA, .boolean)) {i : Int32} (hin : vp_in i N) (hdg : decode cc pc = .ok (.baload, 1)) (kk : V cl nL R Z (pc + 1) lv (.int (f i.toNatClampNeg) :: st) M k n) : V cl nL R Z pc lv (.int i :: .ref a :: st) M k n := fun H locs ls hl hm hS => va_zald C.1 C.2.1 C.2.2.2.2.2.2.2.2.1 (hm.one he) 0 t0 rfl ht hin hdg (kk H locs ls hl hm hS)
theorem v_zast (C : Cx T cl tys own cc nL ret Z) {a : Nat} (t0 : Nat) {cA : ClassId} {N : Nat} {f : Nat → Int32} (he : M a = some (aI cA N f)) (ht : tys[t0]? = some (cA, .boolean)) {i x y : Int32} (hin : vp_in i N) (hx : vp_nar .boolean x = y) (hdg : decode cc pc = .ok (.bastore, 1)) (kk : V cl nL R Z (pc + 1) lv st (mset M a (aI cA N (upd f i.toNatClampNeg y))) k n) : V cl nL R Z pc lv (.int x :: .int i :: .ref a :: st) M k n := by
  subst hx
  intro H locs ls hl hm hS
  refine W.zast C.1 C.2.1 (hm a _ he).2 ((C.2.2.2.2.2.2.2.2.1.2 t0 _ ht).1 N (fun j => .int (f j))) (fun q => by cases q) (by show ¬ (i < 0 ∨ (arrV _ _ _).slots.size ≤ _); rw [arrV_size]; exact hin) rfl rfl hdg fun H1 e1 z oq => ?_
  refine kk H1 _ ls hl (hm.set (hm a _ he).1 ?_ oq) (hS.put z oq (hm a _ he).1)
  show H1[a]? = some (vp_cell _ _)
  rw [e1, vp_cell_i, vp_cell_i, arrV_store]
  congr 2
  funext q
  by_cases hq : q = i.toNatClampNeg
  · subst hq
    simp [updV, upd, vp_nar]
    try rfl
  · simp [updV, upd, hq]
theorem v_newz (C : Cx T cl tys own cc nL ret Z) (hw : Cond.arrayClass .boolean ∈ T) (t0 : Nat) {cA : ClassId} (ht : tys[t0]? = some (cA, .boolean)) {z : Int32} {N : Nat} (hn : ¬ z < 0) (hN : z.toNatClampNeg = N) (hbytes : N * 1 ≤ 536870912) (hcells : k + 1 ≤ R.cells) (hslots : n + N ≤ R.slots) (hdg : decode cc pc = .ok (.newarray .boolean, 2)) (kk : ∀ q : Nat, M q = none → (∀ (b : Nat) (x : va_E), M b = some x → b < q) → V cl nL R Z (pc + 2) lv (.ref q :: st) (mset M q (aI cA N (fun _ => 0))) (k + 1) (n + N)) : V cl nL R Z pc lv (.int z :: st) M k n := by
  intro H locs ls hl hm hS
  have hK := C.2.2.2.2.2.2.2.2.1
  have hts : ∀ w ∈ T, w.before Z.args Z.s = true := fun w h => C.2.2.2.2.2.2.2.2.2 w h Z.args
  refine va_newaK C.1 C.2.1 (atype := .boolean) (hts _ hw) rfl hdg rfl hn hN hbytes hcells hslots rfl fun H1 cB e1 z1 o1 hAr hNm => ?_
  have hcc : cB = cA := Option.some.inj (hNm.symm.trans (hK.2 t0 _ ht).2)
  subst hcc
  refine kk H.size hm.fresh (fun _ _ hb => hm.lt hb) H1 locs ls hl (hm.push (C.2.2.2.2.2.2.1 _ hS.1) ?_ o1) ⟨Nat.le_trans hS.1 (by omega), fun x h1 h2 => (o1 x (Nat.lt_of_lt_of_le h1 hS.1)).trans (hS.2.1 x h1 h2), hS.2.2⟩
  show H1[H.size]? = some (vp_cell _ _)
  rw [e1, vp_cell_i]
  rfl
theorem v_iret {post : Option Value → Mem → Prop} {mc ms : Nat} (hQ : Z.Q = MQ Z.below (mq post Z.D cl Z.A) Z.args Z.s mc ms Z.A) (C : Cx T cl tys own cc nL ret Z) {v : Int32} (hr : ret = some .int) (hdg : decode cc pc = .ok (.ireturn, 1)) (hk : k ≤ mc) (hn : n ≤ ms) (hp : post (some (.int v)) M) : V cl nL R Z pc lv [.int v] M k n := by
  intro H locs ls hl hm hS
  refine W.widen hk hn ?_
  rw [hQ]
  exact W.iret C.1 C.2.1 (C.2.2.2.2.1.trans hr) (fun t ht hW => ⟨⟨_, M, rfl, hp, by rw [ht]; exact hm⟩, hS.F ht⟩) hS.2.2 hdg C.2.2.2.2.2.1
theorem v_zret {post : Option Value → Mem → Prop} {mc ms : Nat} (hQ : Z.Q = MQ Z.below (mq post Z.D cl Z.A) Z.args Z.s mc ms Z.A) (C : Cx T cl tys own cc nL ret Z) {v : Int32} {ty : FieldType} (hr : ret = some ty) (hnn : narrow ty (.int v) = .int v) (hdg : decode cc pc = .ok (.ireturn, 1)) (hk : k ≤ mc) (hn : n ≤ ms) (hp : post (some (.int v)) M) : V cl nL R Z pc lv [.int v] M k n := by
  intro H locs ls hl hm hS
  refine W.widen hk hn ?_
  rw [hQ]
  exact W.zret C.1 C.2.1 (C.2.2.2.2.1.trans hr) hnn (fun t ht hW => ⟨⟨_, M, rfl, hp, by rw [ht]; exact hm⟩, hS.F ht⟩) hS.2.2 hdg C.2.2.2.2.2.1
theorem v_lret {post : Option Value → Mem → Prop} {mc ms : Nat} (hQ : Z.Q = MQ Z.below (mq post Z.D cl Z.A) Z.args Z.s mc ms Z.A) (C : Cx T cl tys own cc nL ret Z) {v : Int64} (hr : ret = some .long) (hdg : decode cc pc = .ok (.lreturn, 1)) (hk : k ≤ mc) (hn : n ≤ ms) (hp : post (some (.long v)) M) : V cl nL R Z pc lv [.long v] M k n := by
  intro H locs ls hl hm hS
  refine W.widen hk hn ?_
  rw [hQ]
  exact W.lret C.1 C.2.1 (C.2.2.2.2.1.trans hr) (fun t ht hW => ⟨⟨_, M, rfl, hp, by rw [ht]; exact hm⟩, hS.F ht⟩) hS.2.2 hdg C.2.2.2.2.2.1
theorem v_vret {post : Option Value → Mem → Prop} {mc ms : Nat} (hQ : Z.Q = MQ Z.below (mq post Z.D cl Z.A) Z.args Z.s mc ms Z.A) (C : Cx T cl tys own cc nL ret Z) (hr : ret = none) (hdg : decode cc pc = .ok (.return_, 1)) (hk : k ≤ mc) (hn : n ≤ ms) (hp : post (none) M) : V cl nL R Z pc lv [] M k n := by
  intro H locs ls hl hm hS
  refine W.widen hk hn ?_
  rw [hQ]
  exact W.vret C.1 C.2.1 (C.2.2.2.2.1.trans hr) (fun t ht hW => ⟨⟨_, M, rfl, hp, by rw [ht]; exact hm⟩, hS.F ht⟩) hS.2.2 hdg C.2.2.2.2.2.1
theorem v_aret {post : Option Value → Mem → Prop} {mc ms : Nat} (hQ : Z.Q = MQ Z.below (mq post Z.D cl Z.A) Z.args Z.s mc ms Z.A) (C : Cx T cl tys own cc nL ret Z) {v : Value} {nm : String} (hr : ret = some (.object nm)) (hv : v = .null ∨ ∃ a, v = .ref a) (hdg : decode cc pc = .ok (.areturn, 1)) (hk : k ≤ mc) (hn : n ≤ ms) (hp : post (some v) M) : V cl nL R Z pc lv [v] M k n := by
  intro H locs ls hl hm hS
  refine W.widen hk hn ?_
  rw [hQ]
  exact W.aret C.1 C.2.1 (C.2.2.2.2.1.trans hr) (Or.inl ⟨_, rfl⟩) hv (fun t ht hW => ⟨⟨_, M, rfl, hp, by rw [ht]; exact hm⟩, hS.F ht⟩) hS.2.2 hdg C.2.2.2.2.2.1
/-- behind a call -/
theorem v_ret {y : MethodName} {bytes : ByteArray} {maxL : Nat} {rt : Option FieldType} {mc ms : Nat} {post : Option Value → Mem → Prop} {rest : List Value} {av : Array Value} (C : Cx T cl tys own cc nL ret Z) (hfr : ∀ (H : Heap) (locs : List Loc) (ls : Array Slot), lv_has ls nL lv → mm_ok Z.D cl Z.A M H → va_S Z.A Z.s.heap H locs → va_Run Z.p Z.l Z.e R Z.s Z.m Z.args Z.below Z.meth Z.c H locs k n mc ms (F0 Z.m pc ls st) rest (mq post Z.D cl (mm_A M H.size) av) (mm_A M H.size))
    (kk : ∀ (rv : Option Value) (M' : Mem), post rv M' → V cl nL R Z (pc + 3) lv (rv.toList ++ rest) M' (k + mc) (n + ms)) : V cl nL R Z pc lv st M k n := by
  intro H locs ls hl hm hS T' hT X
  have hAA : ∀ q, mm_A M H.size q → Z.A q := fun q h => by
    rcases h with ⟨x, hx⟩ | h
    · exact (hm q x hx).1
    · exact C.2.2.2.2.2.2.1 q (Nat.le_trans hS.1 h)
  obtain ⟨v, st₀, t, T1, L, h0, X', hL, e1, e2, ⟨⟨rv, M', hv, hp, hm'⟩, hz, hk⟩, st⟩ := hfr H locs ls hl hm hS T' hT X
  cases hv
  rw [h0] at hz hk
  have hm1 : mm_ok Z.D cl Z.A M' T1.heap := by rw [e1]; exact hm'.weaken hAA
  have hS1 : va_S Z.A Z.s.heap T1.heap (locs ++ L) := ⟨Nat.le_trans hS.1 (by rw [e1]; exact hz), fun q h1 h2 => by rw [e1, hk q (Nat.lt_of_lt_of_le h1 hS.1) (fun z => h2 (hAA q z))]; exact hS.2.1 q h1 h2, fun q hq => by
      rcases List.mem_append.mp hq with h | h
      · exact hS.2.2 q h
      · exact hAA _ (hL q h)⟩
  obtain ⟨t2, a1, b1⟩ := kk v M' hp T1.heap (locs ++ L) ls hl hm1 hS1 T1 rfl X'
  exact ⟨t2, st t2 a1, b1⟩
theorem v_blind {D : va_G} {T : List Cond} {av : List Value} {sz : Nat} : FrameBlind (va_Pc av (fun U => U.heap.size = sz ∧ mm_h D cl M U.heap ∧ (∀ w ∈ T, mov w = true) ∧ Kw T D cl tys U)) := by
  intro a U g mk ⟨h1, h2, h3, h4, h5⟩
  refine ⟨h1, h2, h3, h4, va_K.moved (u := U) (U := U.calling g mk a) (Vm.Alike.refl U.vm) h5.1, ?_⟩
  exact h5.2.moved h4 (s := U) (U := U.calling g mk a) (State.WarmedH.refl U)
theorem v_callV {y : MethodName} {bytes : ByteArray} {maxL : Nat} {rt : Option FieldType} {fr lo mc ms index : Nat} {As rest : List Value} {post : Option Value → Mem → Prop} (C : Cx T cl tys own cc nL ret Z) {b ci : Nat} {fs : List Value} {r : vw_C} (hrv : M b = some (ob ci fs)) (hrc : cl[ci]? = some r) (hrn : r.1 = y.cls) (hinst : Cond.instanceMethod y ∈ T) (hsel : Cond.selects y.cls y y ∈ T) (ct : Ct T Z.D cl tys Z.l y bytes maxL rt fr lo mc ms (.ref b :: As) M post) (hfr : fr + 1 ≤ R.frames) (hlo : 8 + (maxL + 11) + lo ≤ R.locals) (hcd : Cond.code y bytes maxL rt ∈ T) (hini : Cond.initialized y.cls ∈ T) (hy : y.cls ≠ "java/lang/invoke/MethodHandle" ∧ y.cls ≠ "java/lang/invoke/VarHandle" ∧ (parseMethodDescriptor y.desc).map (fun d => d.parameters.length) = some As.length) (hlink : Cond.methodLink own index y ∈ T) (hst : st = As.reverse ++ .ref b :: rest) (hrest : (rest.map fun v => v.category).sum ≤ 8) (hcs : k + mc ≤ R.cells ∧ n + ms ≤ R.slots) (hdg : decode cc pc = .ok (.invokevirtual index, 3))
    (kk : ∀ (rv : Option Value) (M' : Mem), post rv M' → V cl nL R Z (pc + 3) lv (rv.toList ++ rest) M' (k + mc) (n + ms)) : V cl nL R Z pc lv st M k n := by
  subst hst
  refine v_ret (mc := mc) (ms := ms) (post := post) (av := (.ref b :: As).toArray) (y := y) (bytes := bytes) (maxL := maxL) (rt := rt) C (fun H locs ls hl hm hS => ?_) kk
  have tk : ∀ w ∈ T, w.before Z.args Z.s = true := fun w h => C.2.2.2.2.2.2.2.2.2 w h Z.args
  have CB : CallB R Z.s Z.args own index y bytes maxL rt [.code y bytes maxL rt] (rmOf fr lo mc ms) mc ms As.length := ⟨rfl, rfl, hfr, hlo, fun w hw a' U hW => by cases List.mem_singleton.mp hw; exact word_at hW (Or.inl rfl) (tk _ hcd), List.mem_cons_self, tk _ hcd, tk _ hini, ⟨hy.1, hy.2.1⟩, fun sig h => by have h2 := hy.2.2; rw [h] at h2; exact (Option.some.inj h2).symm, tk _ hlink⟩
  have PR : ∀ U : State, U.heap = H → Z.s.WarmedH U.vm → va_Pc (.ref b :: As) (fun U => U.heap.size = H.size ∧ mm_h Z.D cl M U.heap ∧ (∀ w ∈ T, mov w = true) ∧ Kw T Z.D cl tys U) (.ref b :: As).toArray U := fun U hU hW => ⟨rfl, by rw [hU], by rw [hU]; exact hm.h, C.2.2.2.2.2.2.2.1, C.2.2.2.2.2.2.2.2.moved C.2.2.2.2.2.2.2.1 hW⟩
  obtain ⟨r', hr', cellB, g1, g2, g3, -⟩ := (hm b _ hrv).2
  have hfc : Z.s.vm.findClass y.cls = some cellB.cls := by rw [← hrn, g2]; exact (C.2.2.2.2.2.2.2.2.1.1 ci r hrc).2.1
  exact va_runV (Ts := T) (own := own) (C := y.cls) ⟨C.1, C.2.1, C.2.2.1, C.2.2.2.1, tk⟩ (ct H.size) ⟨CB, tk _ hinst, tk _ hsel⟩ ⟨v_blind, ⟨cellB, g1, by rw [g3]; rfl, hfc⟩, PR⟩ rfl rfl hl.1 rfl (lv_room hrest) hdg hcs
theorem v_callS {y : MethodName} {bytes : ByteArray} {maxL : Nat} {rt : Option FieldType} {fr lo mc ms index : Nat} {As rest : List Value} {post : Option Value → Mem → Prop} (C : Cx T cl tys own cc nL ret Z) (hstat : Cond.static y ∈ T) (ct : Ct T Z.D cl tys Z.l y bytes maxL rt fr lo mc ms As M post) (hfr : fr + 1 ≤ R.frames) (hlo : 8 + (maxL + 11) + lo ≤ R.locals) (hcd : Cond.code y bytes maxL rt ∈ T) (hini : Cond.initialized y.cls ∈ T) (hy : y.cls ≠ "java/lang/invoke/MethodHandle" ∧ y.cls ≠ "java/lang/invoke/VarHandle" ∧ (parseMethodDescriptor y.desc).map (fun d => d.parameters.length) = some As.length) (hlink : Cond.methodLink own index y ∈ T) (hst : st = As.reverse ++ rest) (hrest : (rest.map fun v => v.category).sum ≤ 8) (hcs : k + mc ≤ R.cells ∧ n + ms ≤ R.slots) (hdg : decode cc pc = .ok (.invokestatic index, 3))
    (kk : ∀ (rv : Option Value) (M' : Mem), post rv M' → V cl nL R Z (pc + 3) lv (rv.toList ++ rest) M' (k + mc) (n + ms)) : V cl nL R Z pc lv st M k n := by
  subst hst
  refine v_ret (mc := mc) (ms := ms) (post := post) (av := As.toArray) (y := y) (bytes := bytes) (maxL := maxL) (rt := rt) C (fun H locs ls hl hm hS => ?_) kk
  have tk : ∀ w ∈ T, w.before Z.args Z.s = true := fun w h => C.2.2.2.2.2.2.2.2.2 w h Z.args
  have CB : CallB R Z.s Z.args own index y bytes maxL rt [.code y bytes maxL rt] (rmOf fr lo mc ms) mc ms As.length := ⟨rfl, rfl, hfr, hlo, fun w hw a' U hW => by cases List.mem_singleton.mp hw; exact word_at hW (Or.inl rfl) (tk _ hcd), List.mem_cons_self, tk _ hcd, tk _ hini, ⟨hy.1, hy.2.1⟩, fun sig h => by have h2 := hy.2.2; rw [h] at h2; exact (Option.some.inj h2).symm, tk _ hlink⟩
  have PR : ∀ U : State, U.heap = H → Z.s.WarmedH U.vm → va_Pc As (fun U => U.heap.size = H.size ∧ mm_h Z.D cl M U.heap ∧ (∀ w ∈ T, mov w = true) ∧ Kw T Z.D cl tys U) As.toArray U := fun U hU hW => ⟨rfl, by rw [hU], by rw [hU]; exact hm.h, C.2.2.2.2.2.2.2.1, C.2.2.2.2.2.2.2.2.moved C.2.2.2.2.2.2.2.1 hW⟩
  exact va_runS (Ts := T) (own := own) ⟨C.1, C.2.1, C.2.2.1, C.2.2.2.1, tk⟩ (ct H.size) ⟨CB, tk _ hstat⟩ ⟨v_blind, PR⟩ rfl rfl hl.1 rfl (lv_room hrest) hdg hcs
theorem v_callI {y : MethodName} {bytes : ByteArray} {maxL : Nat} {fr lo mc ms index : Nat} {As rest : List Value} {post : Option Value → Mem → Prop} (C : Cx T cl tys own cc nL ret Z) {b : Nat} (hnm : y.name = "<init>") (hinst : Cond.instanceMethod y ∈ T) (ct : Ct T Z.D cl tys Z.l y bytes maxL none fr lo mc ms (.ref b :: As) M post) (hfr : fr + 1 ≤ R.frames) (hlo : 8 + (maxL + 11) + lo ≤ R.locals) (hcd : Cond.code y bytes maxL none ∈ T) (hini : Cond.initialized y.cls ∈ T) (hy : y.cls ≠ "java/lang/invoke/MethodHandle" ∧ y.cls ≠ "java/lang/invoke/VarHandle" ∧ (parseMethodDescriptor y.desc).map (fun d => d.parameters.length) = some As.length) (hlink : Cond.methodLink own index y ∈ T) (hst : st = As.reverse ++ .ref b :: rest) (hrest : (rest.map fun v => v.category).sum ≤ 8) (hcs : k + mc ≤ R.cells ∧ n + ms ≤ R.slots) (hdg : decode cc pc = .ok (.invokespecial index, 3))
    (kk : ∀ (rv : Option Value) (M' : Mem), post rv M' → V cl nL R Z (pc + 3) lv (rv.toList ++ rest) M' (k + mc) (n + ms)) : V cl nL R Z pc lv st M k n := by
  subst hst
  refine v_ret (mc := mc) (ms := ms) (post := post) (av := (.ref b :: As).toArray) (y := y) (bytes := bytes) (maxL := maxL) (rt := none) C (fun H locs ls hl hm hS => ?_) kk
  have tk : ∀ w ∈ T, w.before Z.args Z.s = true := fun w h => C.2.2.2.2.2.2.2.2.2 w h Z.args
  have CB : CallB R Z.s Z.args own index y bytes maxL none [.code y bytes maxL none] (rmOf fr lo mc ms) mc ms As.length := ⟨rfl, rfl, hfr, hlo, fun w hw a' U hW => by cases List.mem_singleton.mp hw; exact word_at hW (Or.inl rfl) (tk _ hcd), List.mem_cons_self, tk _ hcd, tk _ hini, ⟨hy.1, hy.2.1⟩, fun sig h => by have h2 := hy.2.2; rw [h] at h2; exact (Option.some.inj h2).symm, tk _ hlink⟩
  have PR : ∀ U : State, U.heap = H → Z.s.WarmedH U.vm → va_Pc (.ref b :: As) (fun U => U.heap.size = H.size ∧ mm_h Z.D cl M U.heap ∧ (∀ w ∈ T, mov w = true) ∧ Kw T Z.D cl tys U) (.ref b :: As).toArray U := fun U hU hW => ⟨rfl, by rw [hU], by rw [hU]; exact hm.h, C.2.2.2.2.2.2.2.1, C.2.2.2.2.2.2.2.2.moved C.2.2.2.2.2.2.2.1 hW⟩
  exact va_runI (Ts := T) (own := own) ⟨C.1, C.2.1, C.2.2.1, C.2.2.2.1, tk⟩ (ct H.size) ⟨CB, hnm, tk _ hinst⟩ ⟨v_blind, PR⟩ rfl rfl hl.1 rfl (lv_room hrest) hdg hcs
theorem v_callIN {y : MethodName} {bytes : ByteArray} {maxL : Nat} {fr lo mc ms index : Nat} {As rest : List Value} {post : Option Value → Mem → Prop} {host : String} (C : Cx T cl tys own cc nL ret Z) {b : Nat} (hnm : y.name = "<init>") (hinst : Cond.instanceMethod y ∈ T) (ct : Ct T Z.D cl tys Z.l y bytes maxL none fr lo mc ms (.ref b :: As) M post) (hfr : fr + 1 ≤ R.frames) (hlo : 8 + (maxL + 11) + lo ≤ R.locals) (hcd : Cond.code y bytes maxL none ∈ T) (hini : Cond.initialized y.cls ∈ T) (hy : y.cls ≠ "java/lang/invoke/MethodHandle" ∧ y.cls ≠ "java/lang/invoke/VarHandle" ∧ (parseMethodDescriptor y.desc).map (fun d => d.parameters.length) = some As.length) (hlink : Cond.methodLinkNest own index y host ∈ T) (hst : st = As.reverse ++ .ref b :: rest) (hrest : (rest.map fun v => v.category).sum ≤ 8) (hcs : k + mc ≤ R.cells ∧ n + ms ≤ R.slots) (hdg : decode cc pc = .ok (.invokespecial index, 3))
    (kk : ∀ (rv : Option Value) (M' : Mem), post rv M' → V cl nL R Z (pc + 3) lv (rv.toList ++ rest) M' (k + mc) (n + ms)) : V cl nL R Z pc lv st M k n := by
  subst hst
  refine v_ret (mc := mc) (ms := ms) (post := post) (av := (.ref b :: As : List Value).toArray) (y := y) (bytes := bytes) (maxL := maxL) (rt := none) C (fun H locs ls hl hm hS => ?_) kk
  have tk : ∀ w ∈ T, w.before Z.args Z.s = true := fun w h => C.2.2.2.2.2.2.2.2.2 w h Z.args
  have CB : va_CN R Z.s Z.args own index y host bytes maxL none [.code y bytes maxL none] (rmOf fr lo mc ms) mc ms As.length := ⟨⟨rfl, rfl, hfr, hlo, fun w hw a' U hW => by cases List.mem_singleton.mp hw; exact word_at hW (Or.inl rfl) (tk _ hcd), List.mem_cons_self⟩, tk _ hcd, tk _ hini, ⟨hy.1, hy.2.1⟩, fun sig h => by have h2 := hy.2.2; rw [h] at h2; exact (Option.some.inj h2).symm, tk _ hlink⟩
  have PR : ∀ U : State, U.heap = H → Z.s.WarmedH U.vm → va_Pc (.ref b :: As) (fun U => U.heap.size = H.size ∧ mm_h Z.D cl M U.heap ∧ (∀ w ∈ T, mov w = true) ∧ Kw T Z.D cl tys U) (.ref b :: As : List Value).toArray U := fun U hU hW => ⟨rfl, by rw [hU], by rw [hU]; exact hm.h, C.2.2.2.2.2.2.2.1, C.2.2.2.2.2.2.2.2.moved C.2.2.2.2.2.2.2.1 hW⟩
  exact va_runIN (Ts := T) (own := own) ⟨C.1, C.2.1, C.2.2.1, C.2.2.2.1, tk⟩ (ct H.size) ⟨CB, hnm, tk _ hinst⟩ ⟨v_blind, PR⟩ rfl rfl hl.1 rfl (lv_room hrest) hdg hcs
end VV
/-- a contract out of a walk -/
theorem ct_of {T : List Cond} {D : va_G} {cl : List vw_C} {tys : List (ClassId × FieldType)} {l : Launch} {y : MethodName} {cc : ByteArray} {maxL : Nat} {ret : Option FieldType} {fr lo mc ms : Nat} {av : List Value} {M : Mem} {post : Option Value → Mem → Prop} (own : String) (how : y.cls = own) (hy : plainName y.cls = true) (hav : (lg_sl av).length ≤ maxL)
    (body : ∀ Z : Zt, Z.l = l → Z.D = D → Z.meth.name = y.name → Z.Q = MQ Z.below (mq post Z.D cl Z.A) Z.args Z.s mc ms Z.A → Cx T cl tys own cc maxL ret Z → V cl maxL (rmOf fr lo mc ms) Z 0 (lv_args 0 av) [] M 0 0) : Ct T D cl tys l y cc maxL ret fr lo mc ms av M post := by
  subst how
  intro sz
  refine Met.ofW (cc := cc) (maxL := maxL) (ret := ret) hy rfl ?_
  intro p e s m args below meth c s₁ B hml hv
  obtain ⟨rfl, hsz, hmh, hmv, hKw⟩ := hv
  have hl := lv_entry av (n := maxL) hav
  rw [lg_entry_eq]
  exact body (D, mm_A M sz, p, l, e, s, m, av.toArray, below, meth, c, MQ below (mq post D cl (mm_A M sz)) av.toArray s mc ms (mm_A M sz)) rfl rfl (name_of_methodNamed B.named B.method).1 rfl ⟨B.exec, B.bytes, hml, findClass_of_methodNamed B.named, B.returns, B.notSynchronized, fun q h => Or.inr (by rw [← hsz]; exact h), hmv, hKw⟩ s.heap [] _ hl (mm_ok.self hmh sz) va_S.rf
/-- the frame: a memory beside stays as it is -/
def mun (M1 M2 : Mem) : Mem := fun a => match M1 a with
  | some e => some e
  | none => M2 a
def mdj (M1 M2 : Mem) : Prop := ∀ a, M1 a = none ∨ M2 a = none
theorem ct_mono {T : List Cond} {D : va_G} {cl : List vw_C} {tys : List (ClassId × FieldType)} {l : Launch} {y : MethodName} {cc : ByteArray} {maxL : Nat} {ret : Option FieldType} {fr lo mc ms : Nat} {av : List Value} {M : Mem} {post post' : Option Value → Mem → Prop} (h : Ct T D cl tys l y cc maxL ret fr lo mc ms av M post) (hp : ∀ rv M', post rv M' → post' rv M') : Ct T D cl tys l y cc maxL ret fr lo mc ms av M post' := by
  intro sz p e h1 h2 h3 s m args below h4 h5 h6 h7
  obtain ⟨n, o, a1, a2, a3, ⟨⟨rv, M', b1, b2, b3⟩, b4⟩, b5⟩ := h sz p e h1 h2 h3 s m args below h4 h5 h6 h7
  exact ⟨n, o, a1, a2, a3, ⟨⟨rv, M', b1, hp _ _ b2, b3⟩, b4⟩, b5⟩
theorem ct_frame {T : List Cond} {D : va_G} {cl : List vw_C} {tys : List (ClassId × FieldType)} {l : Launch} {y : MethodName} {cc : ByteArray} {maxL : Nat} {ret : Option FieldType} {fr lo mc ms : Nat} {av : List Value} {M1 : Mem} {post : Option Value → Mem → Prop} (h : Ct T D cl tys l y cc maxL ret fr lo mc ms av M1 post) (M2 : Mem) (hd : mdj M1 M2) : Ct T D cl tys l y cc maxL ret fr lo mc ms av (mun M1 M2) (fun rv M' => ∃ M1', post rv M1' ∧ mdj M1' M2 ∧ M' = mun M1' M2) := by
  intro sz p e h1 h2 h3 s m args below h4 h5 h6 h7
  obtain ⟨rfl, hsz, hmh, hmv, hKw⟩ := h6
  have hmA : ∀ q, mm_A M1 sz q → mm_A (mun M1 M2) sz q := fun q hq => by
    rcases hq with ⟨x, hx⟩ | hq
    · exact Or.inl ⟨x, by simp [mun, hx]⟩
    · exact Or.inr hq
  have hmh1 : mm_h D cl M1 s.heap := fun a e ha => hmh a e (by simp [mun, ha])
  have hmh2 : mm_h D cl M2 s.heap := fun a e ha => hmh a e (by
    rcases hd a with h | h
    · simp [mun, h, ha]
    · rw [h] at ha; cases ha)
  obtain ⟨n, o, a1, a2, a3, ⟨⟨rv, M', b1, b2, b3⟩, b4⟩, L, b5, b6⟩ := h sz p e h1 h2 h3 s m _ below h4 h5 ⟨rfl, hsz, hmh1, hmv, hKw⟩ h7
  have hdj : mdj M' M2 := fun a => by
    cases hx : M' a with
    | none => exact Or.inl rfl
    | some x =>
      cases hy : M2 a with
      | none => exact Or.inr rfl
      | some y =>
        exfalso
        have hlt := (hmh2 a y hy).lt
        rcases (b3 a x hx).1 with ⟨z, hz⟩ | hz
        · rcases hd a with h | h
          · rw [h] at hz; cases hz
          · rw [h] at hy; cases hy
        · have : a < s.heap.size := hlt
          omega
  refine ⟨n, o, a1, a2, a3, ⟨⟨rv, mun M' M2, b1, ⟨M', b2, hdj, rfl⟩, ?_⟩, b4.1, fun q g1 g2 => b4.2 q g1 (fun z => g2 (hmA q z))⟩, L, b5, fun q hq => hmA _ (b6 q hq)⟩
  intro a e ha
  cases hx : M' a with
  | some x =>
    have : e = x := by simp [mun, hx] at ha; exact ha.symm
    subst this
    exact ⟨hmA a (b3 a e hx).1, (b3 a e hx).2⟩
  | none =>
    have ha2 : M2 a = some e := by simpa [mun, hx] using ha
    have hm1 : M1 a = none := by
      rcases hd a with h | h
      · exact h
      · rw [h] at ha2; cases ha2
    have hlt : a < s.heap.size := (hmh2 a e ha2).lt
    refine ⟨Or.inl ⟨e, by simp [mun, hm1, ha2]⟩, (hmh2 a e ha2).kept (b4.2 a hlt ?_)⟩
    intro hz
    rcases hz with ⟨x, hz⟩ | hz
    · rw [hm1] at hz; cases hz
    · omega
