/-! the law from its entry -/
theorem mset_mun {M : Mem} {q : Nat} {e : va_E} : mset M q e = mun (mset (fun _ => none) q e) M := by
  funext a
  unfold mset mun
  by_cases h : a = q
  · simp [h]
  · simp [h]
theorem mset_mdj {M : Mem} {q : Nat} {e : va_E} (h : M q = none) : mdj (mset (fun _ => none) q e) M := fun a => by
  by_cases c : a = q
  · right; rw [c]; exact h
  · left; rw [mset_ne c]
set_option maxHeartbeats 8000000 in
set_option maxRecDepth 100000 in
theorem law_start {cI cZ cR cM : ClassId} {Z : Zt} {b L : Nat} {xs : Nat → Int32} (C : Cx TT cls (tyL cI cZ cR cM) "BlockTargetSessionLaw" b_Lw_law 4 ret Z) (hX : va_X b L xs Z.s Z.s.heap) (hbl : b < Z.s.heap.size) (hbA : ¬ Z.A b) (hL : L ≤ 2050) (hend : ∀ (lv : List (Nat × Value)) (M : Mem) (k n : Nat), k ≤ 651652 → n ≤ 7147292 → V cls 4 room_1 Z 638 lv [.int 1] M k n) : V cls 4 room_1 Z 0 [(0, .ref b)] [] (fun _ => none) 0 0 := by
  refine v_new C (fs := [.int 0, .null, .null, .int 0, .null, .null, .int 0, .int 0, .int 0, .int 0, .int 0]) in_Bs t_Bs to_Bs w_9 w_10 w_1 cl_Bs (fun j hj => by rcases (show j = 0 ∨ j = 1 ∨ j = 2 ∨ j = 3 ∨ j = 4 ∨ j = 5 ∨ j = 6 ∨ j = 7 ∨ j = 8 ∨ j = 9 ∨ j = 10 by omega) with rfl | rfl | rfl | rfl | rfl | rfl | rfl | rfl | rfl | rfl | rfl <;> rfl) (Nat.le_of_ble_eq_true rfl) (Nat.le_of_ble_eq_true rfl) d_Lw_law_0 (fun q1 hq1 oq1 => ?_)
  refine V.eqst (st' := [.ref q1]) rfl (V.cs (k' := 1) (n' := 11) rfl rfl ?_)
  refine v_dup C d_Lw_law_3 rfl ?_
  refine v_aload_n C (i := 0) d_Lw_law_4 rfl rfl ?_
  refine v_iconst C (v := 0) d_Lw_law_5 (by decide) ?_
  refine v_cell C hX hbl hbA hL 0 (by omega) (Nat.le_of_ble_eq_true rfl) (Nat.le_of_ble_eq_true rfl) rfl (Nat.le_of_ble_eq_true rfl) (room_ok (by omega) (by omega)) d_Lw_law_6 ?_
  refine v_aload_n C (i := 0) d_Lw_law_9 rfl rfl ?_
  refine v_iconst C (v := 1) d_Lw_law_10 (by decide) ?_
  refine v_cell C hX hbl hbA hL 1 (by omega) (Nat.le_of_ble_eq_true rfl) (Nat.le_of_ble_eq_true rfl) rfl (Nat.le_of_ble_eq_true rfl) (room_ok (by omega) (by omega)) d_Lw_law_11 ?_
  refine v_callI C (As := [.int (if 0 < L then xs 0 else 0), .int (if 1 < L then xs 1 else 0)]) (rest := [.ref q1]) rfl w_12 (ct_Bs_init (if 0 < L then xs 0 else 0) (if 1 < L then xs 1 else 0) (mset_self _ _ _)) (Nat.le_of_ble_eq_true rfl) (Nat.le_of_ble_eq_true rfl) w_13 w_1 hy_Bs_init w_11 rfl (Nat.le_of_ble_eq_true rfl) (room_ok (by omega) (by omega)) d_Lw_law_14 (fun rv M hp => ?_)
  obtain ⟨rfl, ad1, rm, hr1, hr6, er, rfl, hR1⟩ := hp
  refine V.eqst (st' := [.ref (ad1 0)]) rfl (V.cs (k' := 30) (n' := 310) rfl rfl ?_)
  refine v_astore_n C (i := 1) (lv' := [(1, .ref (ad1 0)), (0, .ref b)]) d_Lw_law_17 rfl (by decide) rfl ?_
  refine v_new C (fs := [.int 0, .int 0, .null, .null, .null, .int 0, .null, .null, .null, .null, .null, .null, .int 0, .null, .null, .null, .null, .null, .null, .null, .int 0, .int 0, .int 0, .int 0, .int 0]) in_Md t_Md to_Md w_365 w_366 w_6 cl_Md (fun j hj => by rcases (show j = 0 ∨ j = 1 ∨ j = 2 ∨ j = 3 ∨ j = 4 ∨ j = 5 ∨ j = 6 ∨ j = 7 ∨ j = 8 ∨ j = 9 ∨ j = 10 ∨ j = 11 ∨ j = 12 ∨ j = 13 ∨ j = 14 ∨ j = 15 ∨ j = 16 ∨ j = 17 ∨ j = 18 ∨ j = 19 ∨ j = 20 ∨ j = 21 ∨ j = 22 ∨ j = 23 ∨ j = 24 by omega) with rfl | rfl | rfl | rfl | rfl | rfl | rfl | rfl | rfl | rfl | rfl | rfl | rfl | rfl | rfl | rfl | rfl | rfl | rfl | rfl | rfl | rfl | rfl | rfl | rfl <;> rfl) (Nat.le_of_ble_eq_true rfl) (Nat.le_of_ble_eq_true rfl) d_Lw_law_18 (fun q2 hq2 oq2 => ?_)
  refine V.eqst (st' := [.ref q2]) rfl (V.cs (k' := 31) (n' := 335) rfl rfl ?_)
  refine v_dup C d_Lw_law_21 rfl ?_
  refine v_aload_n C (i := 0) d_Lw_law_22 rfl rfl ?_
  refine v_iconst C (v := 0) d_Lw_law_23 (by decide) ?_
  refine v_cell C hX hbl hbA hL 0 (by omega) (Nat.le_of_ble_eq_true rfl) (Nat.le_of_ble_eq_true rfl) rfl (Nat.le_of_ble_eq_true rfl) (room_ok (by omega) (by omega)) d_Lw_law_24 ?_
  refine v_aload_n C (i := 0) d_Lw_law_27 rfl rfl ?_
  refine v_iconst C (v := 1) d_Lw_law_28 (by decide) ?_
  refine v_cell C hX hbl hbA hL 1 (by omega) (Nat.le_of_ble_eq_true rfl) (Nat.le_of_ble_eq_true rfl) rfl (Nat.le_of_ble_eq_true rfl) (room_ok (by omega) (by omega)) d_Lw_law_29 ?_
  refine V.eqM mset_mun ?_
  refine v_callI C (As := [.int (if 0 < L then xs 0 else 0), .int (if 1 < L then xs 1 else 0)]) (rest := [.ref q2]) rfl w_368 (ct_frame (ct_Md_init (if 0 < L then xs 0 else 0) (if 1 < L then xs 1 else 0) (mset_self _ _ _)) M (mset_mdj hq2)) (Nat.le_of_ble_eq_true rfl) (Nat.le_of_ble_eq_true rfl) w_369 w_6 hy_Md_init w_367 rfl (Nat.le_of_ble_eq_true rfl) (room_ok (by omega) (by omega)) d_Lw_law_32 (fun rv M' hp => ?_)
  obtain ⟨M2, ⟨rfl, ad2, rfl, hR2⟩, hd, rfl⟩ := hp
  refine V.eqst (st' := [.ref (ad2 0)]) rfl (V.cs (k' := 47) (n' := 2113) rfl rfl ?_)
  refine v_astore_n C (i := 2) (lv' := [(2, .ref (ad2 0)), (1, .ref (ad1 0)), (0, .ref b)]) d_Lw_law_35 rfl (by decide) rfl ?_
  refine v_iconst C (v := 2) d_Lw_law_36 (by decide) ?_
  refine v_istore_n C (i := 3) (lv' := [(3, .int 2), (2, .ref (ad2 0)), (1, .ref (ad1 0)), (0, .ref b)]) d_Lw_law_37 rfl (by decide) rfl ?_
  refine V.pick (lv' := [(0, .ref b), (1, .ref (ad1 0)), (2, .ref (ad2 0)), (3, .int 2)]) [3, 2, 1, 0] rfl ?_
  obtain ⟨W, hW1, hW4, eW⟩ := clamp_w (if 0 < L then xs 0 else 0)
  rw [clamp_clW _ 1 4 (by decide), clamp_clW _ 1 6 (by decide), er, eW] at hR2
  rw [eW] at hR1
  exact law_loop C hX hbl hbA hL hend (L + 1) 0 (mun M2 M) (ad1 0) (ad2 0) (by omega) (by omega) ⟨M, M2, ad1, ad2, _, _, hd.sy, mun_comm hd, rfl, rfl, hR1, hR2, sim_start ⟨hW1, hW4⟩ ⟨hr1, hr6⟩⟩
/-! THE CLAIM OUT OF ONE WALK OF THE LAW'S BODY. Your part is whole_start (and what it stands on); all else here is the same for every law, but numbers. -/
def R_law : String := "BlockTargetSessionLaw"
def lw_P (b : Addr) (xs : List Int32) (args : Array Value) (s : State) : Prop := args = #[.ref b] ∧ s.IntsAt b xs ∧ xs.length ≤ 2050 ∧ (Jvm.Cond.and given_1 narrow_1).before args s = true
def lw_Q (_ : Array Value) (s : State) (o : Outcome) (t : State) : Prop := o = .returned (some (.int 1)) ∧ Framed s o t [] 651652 7147292
def lw_Z (below : List Frame) (a : Array Value) (s : State) : State → Prop := fun t => ∃ o, t.status = .running ∧ Ended t below o ∧ lw_Q a s o t
/-- the law's own end, with 1 on the stack, nothing written that was there before, its room as the claim has it -/
theorem lw_ret {p : Program} {l : Launch} {e : Env} {s : State} {m : MethodId} {below : List Frame} {meth : Method} {c : Code} {b : Nat} (hx : p.tables.exec = Jvm.exec) (hb : c.code = code) (hr : meth.sig.returnType = ret) (hlocks : meth.locks = false) {pc : Nat} {H : Heap} {ls : Array Slot} (hdg : decode code pc = .ok (.ireturn, 1)) : W p l e room_1 s m #[Value.ref b] below meth c H [] 651652 7147292 (lw_Z below #[Value.ref b] s) (F0 m pc ls [.int 1]) := by
  intro T hT X
  obtain ⟨fs, hret, hrun, hended, hW, hframe⟩ := X.leave (v := some (.int 1)) (hlocks := hlocks) (fun h => by rw [hr] at h; cases h)
  have hmeth' : T.vm.method? m = some meth := X.method'
  refine ⟨T.setFrames fs, ?_, .returned (some (.int 1)), hrun, hended, rfl, ⟨_, rfl⟩, hW, hframe⟩
  jvm_step X.here [X.here.top, hx, hb, hdg, hmeth', hr, ret, narrow_b1]
  (try refine ⟨rfl, ?_⟩); (try refine ⟨rfl, ?_⟩)
  first | (intro acts; rw [hret _ acts rfl rfl rfl]) | rw [hret _ _ rfl rfl rfl]
  exact Steps.refl _
/-- what holds at the law's entry: the machine, the code, the tables' words (any of lw_tbl by 'hts w (by decide +kernel)'), the script of L ints xs at the cell b, what the Statement gives of the start (any of its parts by flat_of_before) -/
def lw_At (p : Program) (s : State) (m : MethodId) (meth : Method) (c : Code) (b L : Nat) (xs : Nat → Int32) : Prop :=
  p.tables.exec = Jvm.exec ∧ c.code = code ∧ meth.sig.returnType = ret ∧ c.maxLocals = 4 ∧ s.vm.findClass R_law = some m.cls ∧ (∀ w ∈ lw_tbl, w.before #[Value.ref b] s = true) ∧ va_X b L xs s s.heap ∧ b < s.heap.size ∧ meth.locks = false ∧ (Jvm.Cond.and given_1 narrow_1).before #[Value.ref b] s = true
set_option maxHeartbeats 4000000 in
theorem whole_start {p : Program} {e : Env} {s : State} {m : MethodId} {below : List Frame} {meth : Method} {c : Code} (l : Launch) {b L : Nat} {xs : Nat → Int32} (hL : L ≤ 2050) (C0 : lw_At p s m meth c b L xs) : W p l e room_1 s m #[Value.ref b] below meth c s.heap [] 0 0 (lw_Z below #[Value.ref b] s) (entryFrame m ([Value.ref b] : List Value).toArray 4) := by
  obtain ⟨hx, hb, hr, hml, hown, hts, hX, hbl, hlocks, hgv⟩ := C0
  have htw : tw TT s := fun w hw a => mov_one (TT_mov w hw) (hts w (List.mem_filter.mp hw).1) a
  obtain ⟨cI, cZ, cR, cM, hty⟩ := world_ty htw
  obtain ⟨D, hcl⟩ := world_cl htw
  have hbA : ¬ (fun q : Nat => s.heap.size ≤ q) b := Nat.not_le.mpr hbl
  have hl := lv_entry ([.ref b]) (n := 4) (Nat.le_of_ble_eq_true rfl)
  rw [lg_entry_eq]
  have C : Cx TT cls (tyL cI cZ cR cM) "BlockTargetSessionLaw" b_Lw_law 4 ret (D, (fun q : Nat => s.heap.size ≤ q), p, l, e, s, m, #[Value.ref b], below, meth, c, lw_Z below #[Value.ref b] s) := ⟨hx, hb, hml, hown, hr, hlocks, fun q h => h, TT_mov, ⟨hcl, hty⟩, htw⟩
  exact law_start C hX hbl hbA hL (fun lv M k n hk hn H locs ls hl hm hS => va_forget (fun q hq => hS.2.2 q hq) (W.widen hk hn (lw_ret hx hb hr hlocks d_Lw_law_638))) s.heap [] _ hl (fun a e h => by cases h) va_S.rf
set_option maxHeartbeats 4000000 in
theorem lw_walk (l : Launch) (b : Addr) (xs : List Int32) : MetFree l x (headSpec (Jvm.Cond.code x code maxLocals ret :: tables_1) room_1) (lw_P b xs) (fun _ _ _ _ _ => True) lw_Q := by
  refine MetFree.of_bodyS (code := code) (maxLocals := maxLocals) (ret := ret) (by decide) ?_ ?_
  · intro args s m h hn
    obtain ⟨meth, c, h1, h2, h3, h4, h5, h6, -, -⟩ := Cond.code_spec hn (atoms_spec (ws := Jvm.Cond.code x code maxLocals ret :: tables_1) h _ List.mem_cons_self)
    exact ⟨meth, c, h1, h2, h3, h4, h5, h6⟩
  · intro p e s m args below meth c s₁ B hml0 hP _
    obtain ⟨rfl, hx, hbd, hgv⟩ := hP
    obtain ⟨scr, harrAt, hlist, hof, hsmall⟩ := hx
    obtain ⟨hcb, hkn, -, -⟩ := State.arrayAt?_spec harrAt
    have hown : s.vm.findClass R_law = some m.cls := findClass_of_methodNamed B.named
    have hts0 : ∀ c ∈ (Jvm.Cond.code x code maxLocals ret :: tables_1), c.before #[Value.ref b] s = true := atoms_spec (ws := Jvm.Cond.code x code maxLocals ret :: tables_1) B.pre
    have hts : ∀ w ∈ lw_tbl, w.before #[Value.ref b] s = true := k2_hts_sels lw_privs (fun w hw => hts0 w (List.mem_cons_of_mem _ hw)) lw_privs_ok
    have hml : c.maxLocals = 4 := B.maxLocals_eq (hts0 _ List.mem_cons_self)
    have X₀ : Stand p l e room_1 s m #[Value.ref b] below meth c s₁ [] 0 0 := Stand.of_body B
    have hh0 : s₁.heap = s.heap := by rw [B.state]; rfl
    have hsz : scr.slots.size = xs.length := by rw [← Array.length_toList, hlist, List.length_map]
    have hval : ∀ j : Nat, j < xs.length → scr.slots[j]? = some (.int (xs.getD j 0)) := fun j hj => by
      rw [← Array.getElem?_toList, hlist]
      simp [hj]
    have hbl : b < s.heap.size := (Array.getElem?_eq_some_iff.mp hcb).1
    have hX : va_X b xs.length (fun j => xs.getD j 0) s s.heap := ⟨scr, hcb, hof, hkn, hsz, hval⟩
    have K : W p l e room_1 s m #[Value.ref b] below meth c s₁.heap [] 0 0 (lw_Z below #[Value.ref b] s) (entryFrame m ([Value.ref b] : List Value).toArray 4) := by
      rw [hh0]
      exact whole_start l hbd ⟨B.exec, B.bytes, B.returns, hml, hown, hts, hX, hbl, B.notSynchronized, hgv⟩
    obtain ⟨t, a1, o, b1, b2, b3⟩ := K s₁ rfl X₀
    exact ⟨t, o, a1, b1, b2, b3⟩
theorem lw_pre_spec {args : Array Value} {s : State} (h : (Jvm.Cond.and given_1 narrow_1).before args s = true) (hr : rest_1_c.before args s = true) : ∃ (b : Addr) (xs : List Int32), lw_P b xs args s := by
  have hs := flat_of_before _ h
  have hq := flat_of_before _ hr
  have hc : (Cond.count 1).before args s = true := hs _ (by decide +kernel)
  have harr : (Cond.arrayOf (.arg 0) .int).before args s = true := hs _ (by decide +kernel)
  have hle : (Cond.le (.length (.arg 0)) (.int 2050)).before args s = true := hs _ (by decide +kernel)
  have hlen : (Cond.isInt (.length (.arg 0))).before args s = true := hq _ (by decide +kernel)
  have hall : (Cond.all (.arg 0) (.isInt (.elem (.arg 0) (.index 0)))).before args s = true := hq _ (by decide +kernel)
  obtain ⟨b, xs, hb, hx⟩ := State.ints_of_pre rfl harr hlen hall
  have hsm : xs.length < 2 ^ 31 := hx.choose_spec.2.2.2
  have hev : (Term.length (.arg 0)).eval args s none [] s = some (.int xs.length.toInt32) := hx.length_eval hb
  have hv := Cond.le_ints hev (show (Term.int 2050).eval args s none [] s = some (.int 2050) from rfl)
  have hd : xs.length.toInt32 ≤ 2050 := by
    simpa [Cond.before, Cond.holds, hv] using hle
  have hN : xs.length ≤ 2050 := (Int32.ofNat_le_ofNat hsm (by decide)).mp (show Int32.ofNat xs.length ≤ Int32.ofNat 2050 from hd)
  exact ⟨b, xs, Cond.one_arg hc (show args[0]? = some (.ref b) from hb), hx, hN, h⟩
theorem lw_comes (l : Launch) : Comes l x (Jvm.Cond.code x code maxLocals ret :: tables_1) room_1 (fun tb e args s => Calls_1 tb e args s ∧ rest_1 tb e args s ∧ Pre_1 tb e args s)
    (fun _ _ args s o t => lw_Q args s o t) := by
  intro p e ha hc hk s m args below hf hfit hheap happ hpre
  obtain ⟨b, xs, hP⟩ := lw_pre_spec hpre.2.2 hpre.2.1
  obtain ⟨k, o, h1, h2, h3, hQ⟩ := lw_walk l b xs p e ha hc hk s m args below hf ((Spec.applies_iff_loose hf).mp happ).1 hP trivial
  exact ⟨k, o, h1, h2, h3, hQ⟩
theorem lw_frame {s t : State} {o : Outcome} {args : Array Value} (h : Framed s o t [] 651652 7147292) :
    Framed s o t (fieldLocs frame_1_writes args s ++ arrayLocs frame_1_arrays args s ++ staticLocs frame_1_statics s) 651652 7147292 := h
theorem lw_limb (L : Cond) (hL : ∀ (args : Array Value) (s t : State), L.after args s (.returned (some (.int 1))) t = true) :
    ArmFor flags0 classFile x code maxLocals ret World_1 tables_1 room_1 Calls_1 rest_1 Pre_1
      (fun tb e a s o t => postC L tb e a s o t ∧ Framed s o t (fieldLocs frame_1_writes a s ++ arrayLocs frame_1_arrays a s ++ staticLocs frame_1_statics s) 651652 7147292) := by
  intro l _ _ _ p e ha hc hk s m args below hf hfit hheap happ hpre
  obtain ⟨k, o, h1, h2, h3, rfl, hF⟩ := lw_comes l p e ha hc hk s m args below hf hfit hheap happ hpre
  exact ⟨k, _, h1, h2, h3, hL args s _, lw_frame hF⟩
theorem i_vc : Claimed_1_1 ∧ Claimed_1_2 := ⟨lw_limb limb_1_1 (fun args s t => by simp [limb_1_1, Cond.after, Cond.holds, Cond.value]), lw_limb limb_1_2 (fun args s t => Cond.after_iff.mpr (by
  first | (rw [show limb_1_2 = Cond.eq .result (.int 1) from rfl, Cond.eq_ints (x := 1) (y := 1) rfl rfl]; simp; done) | (simp [limb_1_2, Cond.value, Term.eval]; done)))⟩
