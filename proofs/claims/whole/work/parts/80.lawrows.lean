/-! the law: its world at the entry, its script, cell() -/
theorem mov_one {w : Cond} (hm : mov w = true) {s : State} {a0 : Array Value} (h : w.before a0 s = true) (a' : Array Value) : w.before a' s = true := by
  have hW := State.WarmedH.refl s
  cases w <;> first
    | exact word_at hW (Or.inl hm) h
    | exact word_at hW (Or.inr ⟨_, rfl⟩) h
    | exact va_Nw.use rfl (va_Nw.warmF hW h)
    | exact va_Nw.use rfl (va_Nw.warmM hW h)
    | (rename_i ty; cases ty <;> first | exact va_AO.use (va_AO.moved hW.alike (va_AO.of h)) | (simp [mov, Cond.onTables] at hm))
theorem world_ty {s : State} (h : tw TT s) : ∃ cI cZ cR cM : ClassId, ∀ (k : Nat) (q : ClassId × FieldType), (tyL cI cZ cR cM)[k]? = some q → ArrOfT s q.1 q.2 ∧ va_RA s q.1 q.2 := by
  obtain ⟨cI, kI, pI, f1, f2, f3⟩ := Cond.arrayClass_spec (h _ w_98 #[])
  obtain ⟨cZ, kZ, pZ, g1, g2, g3⟩ := Cond.arrayClass_spec (h _ w_447 #[])
  obtain ⟨pR, cR, kR, r1, r2, r3, r4, r5⟩ := Cond.arrayOver_spec (h _ w_18 #[])
  obtain ⟨pM, cM, kM, m1, m2, m3, m4, m5⟩ := Cond.arrayOver_spec (h _ w_26 #[])
  refine ⟨cI, cZ, cR, cM, fun k q hq => ?_⟩
  match k, hq with
  | 0, hq => cases hq; exact ⟨fun n z => ⟨fun k h => (by cases h), kI, f2, pI, f3⟩, f1⟩
  | 1, hq => cases hq; exact ⟨fun n z => ⟨fun k h => (by cases h), kZ, g2, pZ, g3⟩, g1⟩
  | 2, hq => cases hq; exact ⟨fun n z => ⟨fun k h => (by cases h), kR, r3, pR, r4⟩, kR, pR, r3, r4, r1, r5⟩
  | 3, hq => cases hq; exact ⟨fun n z => ⟨fun k h => (by cases h), kM, m3, pM, m4⟩, kM, pM, m3, m4, m1, m5⟩
  | k + 4, hq => simp [tyL] at hq
theorem world_cl {s : State} (h : tw TT s) : ∃ D : va_G, ∀ (c : Nat) (q : vw_C), cls[c]? = some q → u_Kn s q.1 q.2.1 q.2.2 (D.1 c) (D.2 c) := by
  have hts : ∀ w ∈ TT, w.before #[] s = true := fun w hw => h w hw #[]
  obtain ⟨c0, i0, k0⟩ := u_known (C := "BlockTargetSession$Line") (T := F_Ln) (N := 2) hts in_Ln (hts _ w_20)
  obtain ⟨c1, i1, k1⟩ := u_known (C := "BlockTargetSession$Message") (T := F_Ms) (N := 6) hts in_Ms (hts _ w_27)
  obtain ⟨c2, i2, k2⟩ := u_known (C := "BlockTargetSession$Request") (T := F_Rq) (N := 6) hts in_Rq (hts _ w_151)
  obtain ⟨c3, i3, k3⟩ := u_known (C := "BlockTargetSession$Store") (T := F_St) (N := 5) hts in_St (hts _ w_75)
  obtain ⟨c4, i4, k4⟩ := u_known (C := "BlockTargetSession") (T := F_Bs) (N := 11) hts in_Bs (hts _ w_10)
  obtain ⟨c5, i5, k5⟩ := u_known (C := "BlockTargetSessionModel") (T := F_Md) (N := 25) hts in_Md (hts _ w_366)
  refine ⟨(fun k => if k = 0 then c0 else if k = 1 then c1 else if k = 2 then c2 else if k = 3 then c3 else if k = 4 then c4 else c5, fun k => if k = 0 then i0 else if k = 1 then i1 else if k = 2 then i2 else if k = 3 then i3 else if k = 4 then i4 else i5), fun k q hq => ?_⟩
  match k, hq with
  | 0, hq => cases hq; exact k0
  | 1, hq => cases hq; exact k1
  | 2, hq => cases hq; exact k2
  | 3, hq => cases hq; exact k3
  | 4, hq => cases hq; exact k4
  | 5, hq => cases hq; exact k5
  | k + 6, hq => simp [cls] at hq
section LAWV
variable {T : List Cond} {cl : List vw_C} {tys : List (ClassId × FieldType)} {own : String} {cc : ByteArray} {nL : Nat} {ret : Option FieldType}
variable {R : Room} {Z : Zt} {pc : Nat} {lv : List (Nat × Value)} {st : List Value} {M : Mem} {k n : Nat} {b L : Nat} {xs : Nat → Int32}
theorem v_sld (C : Cx T cl tys own cc nL ret Z) (hX : va_X b L xs Z.s Z.s.heap) (hbl : b < Z.s.heap.size) (hbA : ¬ Z.A b) {i : Int32} (hin : vp_in i L) (hdg : decode cc pc = .ok (.iaload, 1)) (kk : V cl nL R Z (pc + 1) lv (.int (xs i.toNatClampNeg) :: st) M k n) : V cl nL R Z pc lv (.int i :: .ref b :: st) M k n := fun H locs ls hl hm hS => va_sld C.1 C.2.1 hX hbl hbA hS hin hdg (kk H locs ls hl hm hS)
theorem v_slen (C : Cx T cl tys own cc nL ret Z) (hX : va_X b L xs Z.s Z.s.heap) (hbl : b < Z.s.heap.size) (hbA : ¬ Z.A b) (hdg : decode cc pc = .ok (.arraylength, 1)) (kk : V cl nL R Z (pc + 1) lv (.int (nI L) :: st) M k n) : V cl nL R Z pc lv (.ref b :: st) M k n := fun H locs ls hl hm hS => va_slen C.1 C.2.1 hX hbl hbA hS hdg (kk H locs ls hl hm hS)
end LAWV
section CELL
variable {D : va_G} {l : Launch} {tys : List (ClassId × FieldType)} {M : Mem} {b L : Nat} {xs : Nat → Int32}
abbrev cellP (D : va_G) (tys : List (ClassId × FieldType)) (M : Mem) (b L : Nat) (xs : Nat → Int32) (sz : Nat) (U : State) : Prop := U.heap.size = sz ∧ mm_h D cls M U.heap ∧ (∀ w ∈ TT, mov w = true) ∧ Kw TT D cls tys U ∧ va_X b L xs U U.heap
abbrev cellQ (M : Mem) (L : Nat) (xs : Nat → Int32) (k : Nat) : Option Value → Mem → Prop := fun rv M' => rv = some (.int (if k < L then xs k else 0)) ∧ M' = M
set_option maxHeartbeats 4000000 in
theorem met_cell (hMb : M b = none) (hL : L ≤ 2050) (k : Nat) (hk : k < 2) (sz : Nat) (hbs : b < sz) : Met l y_Lw_cell [.code y_Lw_cell b_Lw_cell 2 (some .int)] (rmOf 0 0 0 0) (va_Pc [.ref b, .int (nI k)] (cellP D tys M b L xs sz)) (mq (cellQ M L xs k) D cls (mm_A M sz)) 0 0 (mm_A M sz) := by
  refine Met.ofW (cc := b_Lw_cell) (maxL := 2) (ret := some .int) (by decide) rfl ?_
  intro p e s m args below meth c s₁ B hml hv
  obtain ⟨rfl, hsz, hmh, hmv, hKw, hX⟩ := hv
  have hl := lv_entry [.ref b, .int (nI k)] (n := 2) (Nat.le_of_ble_eq_true rfl)
  rw [lg_entry_eq]
  have hbA : ¬ mm_A M sz b := fun z => by
    rcases z with ⟨x, hx⟩ | z
    · rw [hMb] at hx; cases hx
    · omega
  have key : ∀ Z : Zt, Z.s.heap.size = sz → Z.A = mm_A M sz → va_X b L xs Z.s Z.s.heap → Z.Q = MQ Z.below (mq (cellQ M L xs k) Z.D cls Z.A) Z.args Z.s 0 0 Z.A → Cx TT cls tys "BlockTargetSessionLaw" b_Lw_cell 2 (some .int) Z → V cls 2 (rmOf 0 0 0 0) Z 0 [(0, .ref b), (1, .int (nI k))] [] M 0 0 := by
    intro Z hz hA hX hQ C
    have hbl : b < Z.s.heap.size := by omega
    have hbA' : ¬ Z.A b := by rw [hA]; exact hbA
    refine v_iload_n C (i := 1) d_Lw_cell_0 rfl rfl ?_
    refine v_aload_n C (i := 0) d_Lw_cell_1 rfl rfl ?_
    refine v_slen C hX hbl hbA' d_Lw_cell_2 ?_
    refine v_icmp_ge C 12 d_Lw_cell_3 (by decide) (fun c_3 => ?_) (fun c_3 => ?_)
    · have hle : L ≤ k := (nI_leI (by omega) (by omega)).mp c_3
      refine v_iconst C (v := 0) d_Lw_cell_12 (by decide) ?_
      exact v_iret hQ C rfl d_Lw_cell_13 (by omega) (by omega) ⟨by rw [if_neg (by omega)], rfl⟩
    · have hlt : k < L := Nat.lt_of_not_le (fun z => c_3 ((nI_leI (by omega) (by omega)).mpr z))
      refine v_aload_n C (i := 0) d_Lw_cell_6 rfl rfl ?_
      refine v_iload_n C (i := 1) d_Lw_cell_7 rfl rfl ?_
      refine v_sld C hX hbl hbA' (pk_in k L hlt) d_Lw_cell_8 ?_
      refine V.eqst (st' := [.int (xs k)]) (by rw [show Int32.toNatClampNeg (nI k) = k from pk_cl _ (hx := rfl)]) ?_
      refine v_goto C 13 d_Lw_cell_9 (by decide) ?_
      exact v_iret hQ C rfl d_Lw_cell_13 (by omega) (by omega) ⟨by rw [if_pos hlt], rfl⟩
  exact key (D, mm_A M sz, p, l, e, s, m, ([.ref b, .int (nI k)] : List Value).toArray, below, meth, c, MQ below (mq (cellQ M L xs k) D cls (mm_A M sz)) ([.ref b, .int (nI k)] : List Value).toArray s 0 0 (mm_A M sz)) hsz rfl hX rfl ⟨B.exec, B.bytes, hml, findClass_of_methodNamed B.named, B.returns, B.notSynchronized, fun q h => Or.inr (by rw [← hsz]; exact h), hmv, hKw⟩ s.heap [] _ hl (mm_ok.self hmh sz) va_S.rf
theorem cell_blind {av : List Value} {sz : Nat} : FrameBlind (va_Pc av (cellP D tys M b L xs sz)) := by
  intro a U g mk ⟨h1, h2, h3, h4, h5, h6⟩
  refine ⟨h1, h2, h3, h4, ⟨va_K.moved (u := U) (U := U.calling g mk a) (Vm.Alike.refl U.vm) h5.1, ?_⟩, va_X.moved (u := U) (U := U.calling g mk a) (Vm.Alike.refl U.vm) h6⟩
  exact h5.2.moved h4 (s := U) (U := U.calling g mk a) (State.WarmedH.refl U)
set_option maxHeartbeats 4000000 in
theorem v_cell {R : Room} {Z : Zt} {nL : Nat} {ret : Option FieldType} {cc : ByteArray} {pc : Nat} {lv : List (Nat × Value)} {st rest : List Value} {k n : Nat} (C : Cx TT cls tys "BlockTargetSessionLaw" cc nL ret Z) (hX : va_X b L xs Z.s Z.s.heap) (hbl : b < Z.s.heap.size) (hbA : ¬ Z.A b) (hL : L ≤ 2050) (k0 : Nat) (hk : k0 < 2) (hfr : 0 + 1 ≤ R.frames) (hlo : 8 + (2 + 11) + 0 ≤ R.locals) (hst : st = .int (nI k0) :: .ref b :: rest) (hrest : (rest.map fun v => v.category).sum ≤ 8) (hcs : k + 0 ≤ R.cells ∧ n + 0 ≤ R.slots) (hdg : decode cc pc = .ok (.invokestatic 9, 3)) (kk : V cls nL R Z (pc + 3) lv (.int (if k0 < L then xs k0 else 0) :: rest) M k n) : V cls nL R Z pc lv st M k n := by
  subst hst
  refine v_ret (mc := 0) (ms := 0) (post := cellQ M L xs k0) (rest := rest) (av := ([.ref b, .int (nI k0)] : List Value).toArray) (y := y_Lw_cell) (bytes := b_Lw_cell) (maxL := 2) (rt := some .int) C (fun H locs ls hl hm hS => ?_) (fun rv M' hp => ?_)
  · have tk : ∀ w ∈ TT, w.before Z.args Z.s = true := fun w h => C.2.2.2.2.2.2.2.2.2 w h Z.args
    have CB : CallB R Z.s Z.args "BlockTargetSessionLaw" 9 y_Lw_cell b_Lw_cell 2 (some .int) [.code y_Lw_cell b_Lw_cell 2 (some .int)] (rmOf 0 0 0 0) 0 0 2 := ⟨rfl, rfl, hfr, hlo, fun w hw a' U hW => by cases List.mem_singleton.mp hw; exact word_at hW (Or.inl rfl) (tk _ w_364), List.mem_cons_self, tk _ w_364, tk _ w_0, ⟨by decide, by decide⟩, fun sig h => by have h2 := hy_Lw_cell.2.2; rw [h] at h2; exact (Option.some.inj h2).symm, tk _ w_362⟩
    have hMb : M b = none := by
      cases h : M b with
      | none => rfl
      | some x => exact absurd (hm b x h).1 hbA
    have hXH : va_X b L xs Z.s H := hX.kept (hS.2.1 b hbl hbA)
    have PR : ∀ U : State, U.heap = H → Z.s.WarmedH U.vm → va_Pc [.ref b, .int (nI k0)] (cellP Z.D tys M b L xs H.size) ([.ref b, .int (nI k0)] : List Value).toArray U := fun U hU hW => ⟨rfl, by rw [hU], by rw [hU]; exact hm.h, C.2.2.2.2.2.2.2.1, C.2.2.2.2.2.2.2.2.moved C.2.2.2.2.2.2.2.1 hW, by rw [hU]; exact va_X.moved hW.alike hXH⟩
    exact va_runS (Ts := TT) (own := "BlockTargetSessionLaw") (As := [.ref b, .int (nI k0)]) ⟨C.1, C.2.1, C.2.2.1, C.2.2.2.1, tk⟩ (met_cell hMb hL k0 hk H.size (Nat.lt_of_lt_of_le hbl hS.1)) ⟨CB, tk _ w_363⟩ ⟨cell_blind, PR⟩ rfl rfl hl.1 rfl (lv_room hrest) hdg hcs
  · obtain ⟨rfl, rfl⟩ := hp
    exact kk
end CELL
theorem loop_go {L a : Nat} (hL : L ≤ 2050) (ha : a < 3000) (h : ¬ nI L - 4 < nI a) : a + 4 ≤ L := by
  by_cases h4 : 4 ≤ L
  · obtain ⟨d, rfl⟩ : ∃ d, L = d + 4 := ⟨L - 4, by omega⟩
    have e : nI (d + 4) - 4 = nI d := by
      rw [show nI (d + 4) = nI d + 4 from (nI_add d 4).symm, Int32.add_sub_cancel]
    rw [e] at h
    have := (nI_leI (by omega) (by omega)).mp (Int32.not_lt.mp h)
    omega
  · have neg : nI L - 4 < 0 := by
      rcases (show L = 0 ∨ L = 1 ∨ L = 2 ∨ L = 3 by omega) with rfl | rfl | rfl | rfl <;> decide
    exact absurd (Int32.lt_of_lt_of_le neg (nI_pos' (n := a) (by omega))) h
theorem nI_p2 (a : Nat) : nI a + 2 = nI (a + 2) := nI_add a 2
theorem nI_p3 (a : Nat) : nI a + 3 = nI (a + 3) := nI_add a 3
theorem nI_p4 (a : Nat) : nI a + 4 = nI (a + 4) := nI_add a 4
theorem Two.up {cI cZ cR cM : ClassId} {t t' o1 o2 : Nat} {M : Mem} (ht : t ≤ t') (h : Two cI cZ cR cM t o1 o2 M) : Two cI cZ cR cM t' o1 o2 M := by
  obtain ⟨M1, M2, ad1, ad2, A, B, hd, e, e1, e2, h1, h2, hS⟩ := h
  exact ⟨M1, M2, ad1, ad2, A, B, hd, e, e1, e2, h1, h2, hS.up ht⟩
