set_option maxHeartbeats 4000000 in
set_option maxRecDepth 100000 in
theorem ct_Rq_init {D : va_G} {l : Launch} {cI cZ cR cM : ClassId} {M : Mem} {q : Nat} (k f : Int32) (c : Nat) (hc : c ≤ 3) (v : Int32) (h1 : M q = some (ob 2 [.int 0, .int 0, .int 0, .int 0, .null, .int 0])) : Ct TT D cls (tyL cI cZ cR cM) l y_Rq_init b_Rq_init 5 none 1 24 1 3 [.ref q, .int k, .int f, .int (nI c), .int v] M (fun rv M' => rv = none ∧ ∃ a, M a = none ∧ a ≠ q ∧ M' = mset (mset M q (ob 2 [.int k, .int f, .int (nI c), .int v, .ref a, .int 0])) a (aI cI (if k = 1 then c else 0) (fun _ => 0))) := by
  refine ct_of "BlockTargetSession$Request" rfl (by decide) (Nat.le_of_ble_eq_true rfl) ?_
  intro Z hl hD hnm hQ C
  subst hl
  subst hD
  show V cls 5 (rmOf 1 24 1 3) Z 0 [(0, .ref q), (1, .int k), (2, .int f), (3, .int (nI c)), (4, .int v)] [] M 0 0
  refine v_aload_n C (i := 0) d_Rq_init_0 rfl rfl ?_
  refine v_objInit C w_155 w_15 w_16 (Nat.le_of_ble_eq_true rfl) (Nat.le_of_ble_eq_true rfl) d_Rq_init_1 ?_
  refine v_aload_n C (i := 0) d_Rq_init_4 rfl rfl ?_
  refine v_iconst C (v := 0) d_Rq_init_5 (by decide) ?_
  refine v_put C in_Rq t_Rq to_Rq nm_Rq h1 cl_Rq 5 (by decide) (fs' := [.int 0, .int 0, .int 0, .int 0, .null, .int 0]) w_166 rfl rfl rfl rfl (Nat.le_of_ble_eq_true rfl) rfl d_Rq_init_6 ?_
  refine v_aload_n C (i := 0) d_Rq_init_9 rfl rfl ?_
  refine v_iload_n C (i := 1) d_Rq_init_10 rfl rfl ?_
  refine v_putF C in_Rq t_Rq to_Rq nm_Rq (mset_self _ _ _) cl_Rq 0 (by decide) (fs' := [.int k, .int 0, .int 0, .int 0, .null, .int 0]) w_156 rfl rfl hnm rfl rfl rfl (Nat.le_of_ble_eq_true rfl) rfl d_Rq_init_11 ?_
  rw [mset_set]
  refine v_aload_n C (i := 0) d_Rq_init_14 rfl rfl ?_
  refine v_iload_n C (i := 2) d_Rq_init_15 rfl rfl ?_
  refine v_putF C in_Rq t_Rq to_Rq nm_Rq (mset_self _ _ _) cl_Rq 1 (by decide) (fs' := [.int k, .int f, .int 0, .int 0, .null, .int 0]) w_158 rfl rfl hnm rfl rfl rfl (Nat.le_of_ble_eq_true rfl) rfl d_Rq_init_16 ?_
  rw [mset_set]
  refine v_aload_n C (i := 0) d_Rq_init_19 rfl rfl ?_
  refine v_iload_n C (i := 3) d_Rq_init_20 rfl rfl ?_
  refine v_putF C in_Rq t_Rq to_Rq nm_Rq (mset_self _ _ _) cl_Rq 2 (by decide) (fs' := [.int k, .int f, .int (nI c), .int 0, .null, .int 0]) w_160 rfl rfl hnm rfl rfl rfl (Nat.le_of_ble_eq_true rfl) rfl d_Rq_init_21 ?_
  rw [mset_set]
  refine v_aload_n C (i := 0) d_Rq_init_24 rfl rfl ?_
  refine v_iload C (i := 4) d_Rq_init_25 rfl ?_
  refine v_putF C in_Rq t_Rq to_Rq nm_Rq (mset_self _ _ _) cl_Rq 3 (by decide) (fs' := [.int k, .int f, .int (nI c), .int v, .null, .int 0]) w_162 rfl rfl hnm rfl rfl rfl (Nat.le_of_ble_eq_true rfl) rfl d_Rq_init_27 ?_
  rw [mset_set]
  refine v_aload_n C (i := 0) d_Rq_init_30 rfl rfl ?_
  refine v_iload_n C (i := 1) d_Rq_init_31 rfl rfl ?_
  refine v_iconst C (v := 1) d_Rq_init_32 (by decide) ?_
  refine v_icmp_ne C 40 d_Rq_init_33 (by decide) (fun c_33 => ?_) (fun c_33 => ?_)
  · refine v_iconst C (v := 0) d_Rq_init_40 (by decide) ?_
    refine v_newa C w_98 0 rfl (N := 0) (by decide) (by decide) (by omega) (by decide) (by decide) d_Rq_init_41 (fun q_41 hq_41 oq_41 => ?_)
    refine V.eqst (st' := [.ref q_41, .ref q]) rfl (V.cs (k' := 1) (n' := 0) rfl rfl ?_)
    have hqq : q ≠ q_41 := fr_ne hq_41 (mset_self _ _ _)
    have hq0 : M q_41 = none := by rw [← hq_41, mset_ne (Ne.symm hqq)]
    refine v_putF C in_Rq t_Rq to_Rq nm_Rq ((mset_ne (fr_ne hq_41 (mset_self _ _ _))).trans (mset_self _ _ _)) cl_Rq 4 (by decide) (fs' := [.int k, .int f, .int (nI c), .int v, .ref q_41, .int 0]) w_164 rfl rfl hnm rfl rfl rfl (Nat.le_of_ble_eq_true rfl) rfl d_Rq_init_43 ?_
    rw [mset_comm _ _ _ hqq, mset_set]
    exact v_vret hQ C rfl d_Rq_init_46 (by omega) (by omega) ⟨rfl, q_41, hq0, Ne.symm hqq, by rw [if_neg c_33]; exact mset_comm _ _ _ (Ne.symm hqq)⟩
  · refine v_iload_n C (i := 3) d_Rq_init_36 rfl rfl ?_
    refine v_goto C 41 d_Rq_init_37 (by decide) ?_
    refine v_newa C w_98 0 rfl (N := c) (nI_pos (by omega)) (pk_cl c) (by omega) (by decide) (by show 0 + c ≤ 3; omega) d_Rq_init_41 (fun q_41 hq_41 oq_41 => ?_)
    refine V.eqst (st' := [.ref q_41, .ref q]) rfl (V.cs (k' := 1) (n' := 0 + c) rfl rfl ?_)
    have hqq : q ≠ q_41 := fr_ne hq_41 (mset_self _ _ _)
    have hq0 : M q_41 = none := by rw [← hq_41, mset_ne (Ne.symm hqq)]
    refine v_putF C in_Rq t_Rq to_Rq nm_Rq ((mset_ne (fr_ne hq_41 (mset_self _ _ _))).trans (mset_self _ _ _)) cl_Rq 4 (by decide) (fs' := [.int k, .int f, .int (nI c), .int v, .ref q_41, .int 0]) w_164 rfl rfl hnm rfl rfl rfl (Nat.le_of_ble_eq_true rfl) rfl d_Rq_init_43 ?_
    rw [mset_comm _ _ _ hqq, mset_set]
    exact v_vret hQ C rfl d_Rq_init_46 (by omega) (by omega) ⟨rfl, q_41, hq0, Ne.symm hqq, by rw [if_pos c_33]; exact mset_comm _ _ _ (Ne.symm hqq)⟩
set_option maxHeartbeats 4000000 in
set_option maxRecDepth 100000 in
theorem ct_Bs_addRequest {D : va_G} {l : Launch} {cI cZ cR cM : ClassId} {M : Mem} {ad : Nat → Nat} {G : G1} (h : R1 cI cR cM M ad G) (hn : G.N 0 ≤ 120) (k f : Int32) (c : Nat) (hc3 : c ≤ 3) (v : Int32) : Ct TT D cls (tyL cI cZ cR cM) l y_Bs_addRequest b_Bs_addRequest 6 (some .int) 2 48 2 9 [.ref (ad 0), .int k, .int f, .int (nI c), .int v] M (fun rv M' => (G.N 0 = 120 ∧ rv = some (.int (-2)) ∧ R1 cI cR cM M' ad G) ∨ (G.N 0 < 120 ∧ rv = some (.int (nI (G.N 0))) ∧ ∃ ad', ad' 0 = ad 0 ∧ R1 cI cR cM M' ad' (G.addq k f (nI c) v))) := by
  refine ct_of "BlockTargetSession" rfl (by decide) (Nat.le_of_ble_eq_true rfl) ?_
  intro Z hl hD hnm hQ C
  subst hl
  subst hD
  show V cls 6 (rmOf 2 48 2 9) Z 0 [(0, .ref (ad 0)), (1, .int k), (2, .int f), (3, .int (nI c)), (4, .int v)] [] M 0 0
  refine v_aload_n C (i := 0) d_Bs_addRequest_0 rfl rfl ?_
  refine v_get C (v := .int (nI (G.N 0))) in_Bs h.o cl_Bs 3 (by decide) w_106 rfl rfl d_Bs_addRequest_1 ?_
  refine v_bipush C (v := 120) d_Bs_addRequest_4 (by decide) ?_
  refine v_icmp_lt C 12 d_Bs_addRequest_6 (by decide) (fun c_6 => ?_) (fun c_6 => ?_)
  · have hlt : G.N 0 < 120 := (nI_ltI (by omega) (by decide)).mp c_6
    refine v_aload_n C (i := 0) d_Bs_addRequest_12 rfl rfl ?_
    refine v_get C (v := .int (nI (G.N 0))) in_Bs h.o cl_Bs 3 (by decide) w_106 rfl rfl d_Bs_addRequest_13 ?_
    refine v_istore C (i := 5) (lv' := [(5, .int (nI (G.N 0))), (0, .ref (ad 0)), (1, .int k), (2, .int f), (3, .int (nI c)), (4, .int v)]) d_Bs_addRequest_16 (by decide) rfl ?_
    refine v_aload_n C (i := 0) d_Bs_addRequest_18 rfl rfl ?_
    refine v_get C (v := .ref (ad 5)) in_Bs h.o cl_Bs 2 (by decide) w_105 rfl rfl d_Bs_addRequest_19 ?_
    refine v_iload C (i := 5) d_Bs_addRequest_22 rfl ?_
    refine v_new C (fs := [.int 0, .int 0, .int 0, .int 0, .null, .int 0]) in_Rq t_Rq to_Rq w_17 w_151 w_7 cl_Rq (fun j hj => by rcases (show j = 0 ∨ j = 1 ∨ j = 2 ∨ j = 3 ∨ j = 4 ∨ j = 5 by omega) with rfl | rfl | rfl | rfl | rfl | rfl <;> rfl) (by decide) (by decide) d_Bs_addRequest_24 (fun q_24 hq_24 oq_24 => ?_)
    refine V.eqst (st' := [.ref q_24, .int (nI (G.N 0)), .ref (ad 5)]) rfl (V.cs (k' := 1) (n' := 6) rfl rfl ?_)
    refine v_dup C d_Bs_addRequest_27 rfl ?_
    refine v_iload_n C (i := 1) d_Bs_addRequest_28 rfl rfl ?_
    refine v_iload_n C (i := 2) d_Bs_addRequest_29 rfl rfl ?_
    refine v_iload_n C (i := 3) d_Bs_addRequest_30 rfl rfl ?_
    refine v_iload C (i := 4) d_Bs_addRequest_31 rfl ?_
    refine v_callI C (As := [.int k, .int f, .int (nI c), .int v]) (rest := [.ref q_24, .int (nI (G.N 0)), .ref (ad 5)]) rfl w_153 (ct_Rq_init k f c hc3 v (mset_self _ _ _)) (Nat.le_of_ble_eq_true rfl) (Nat.le_of_ble_eq_true rfl) w_154 w_7 hy_Rq_init w_152 rfl (Nat.le_of_ble_eq_true rfl) ⟨by decide, by decide⟩ d_Bs_addRequest_33 (fun rv M hp => ?_)
    obtain ⟨rfl, a, ha0, haq, rfl⟩ := hp
    rw [mset_set]
    refine V.eqst (st' := [.ref q_24, .int (nI (G.N 0)), .ref (ad 5)]) rfl (V.cs (k' := 2) (n' := 9) rfl rfl ?_)
    have ha : M a = none := by rw [← ha0, mset_ne haq]
    have k5 : (mset (mset M q_24 (ob 2 [.int k, .int f, .int (nI c), .int v, .ref a, .int 0])) a (aI cI (if k = 1 then c else 0) (fun _ => 0))) (ad 5) = some (aQ cR 120 (fun i => if i < G.N 0 then some (ad (30 + 2 * i)) else none)) := by rw [mset_ne (fr_ne ha h.rs), mset_ne (fr_ne hq_24 h.rs)]; exact h.rs
    have k0 : (mset (mset M q_24 (ob 2 [.int k, .int f, .int (nI c), .int v, .ref a, .int 0])) a (aI cI (if k = 1 then c else 0) (fun _ => 0))) (ad 0) = some (ob 4 (bf ad G)) := by rw [mset_ne (fr_ne ha h.o), mset_ne (fr_ne hq_24 h.o)]; exact h.o
    have kq : (mset (mset M q_24 (ob 2 [.int k, .int f, .int (nI c), .int v, .ref a, .int 0])) a (aI cI (if k = 1 then c else 0) (fun _ => 0))) q_24 = some (ob 2 [.int k, .int f, .int (nI c), .int v, .ref a, .int 0]) := by rw [mset_ne (Ne.symm haq), mset_self]
    refine v_astq C (N := 120) (f := fun i => if i < G.N 0 then some (ad (30 + 2 * i)) else none) 2 2 k5 rfl kq cl_Rq (pk_in (G.N 0) 120 (by omega)) d_Bs_addRequest_36 ?_
    rw [show Int32.toNatClampNeg (nI (G.N 0)) = G.N 0 from pk_cl _ (hx := rfl)]
    refine v_aload_n C (i := 0) d_Bs_addRequest_37 rfl rfl ?_
    refine v_dup C d_Bs_addRequest_38 rfl ?_
    refine v_get C (v := .int (nI (G.N 0))) in_Bs ((mset_ne (h.inj (by omega) (by omega) (by decide))).trans k0) cl_Bs 3 (by decide) w_106 rfl rfl d_Bs_addRequest_39 ?_
    refine v_iconst C (v := 1) d_Bs_addRequest_42 (by decide) ?_
    refine v_iadd C d_Bs_addRequest_43 ?_
    refine V.eqst (st' := [.int (nI (G.N 0 + 1)), .ref (ad 0)]) (by rw [nI_1]) ?_
    refine v_put C in_Bs t_Bs to_Bs nm_Bs ((mset_ne (h.inj (by omega) (by omega) (by decide))).trans k0) cl_Bs 3 (by decide) (fs' := [.int (G.I 0), .ref (ad 1), .ref (ad 5), .int (nI (G.N 0 + 1)), .ref (ad 6), .ref (ad 8), .int (G.I 1), .int (G.I 2), .int (G.I 3), .int (G.I 4), .int (G.I 5)]) w_106 rfl rfl rfl rfl (Nat.le_of_ble_eq_true rfl) rfl d_Bs_addRequest_44 ?_
    refine v_iload C (i := 5) d_Bs_addRequest_47 rfl ?_
    exact v_iret hQ C rfl d_Bs_addRequest_49 (by omega) (by omega) (Or.inr ⟨hlt, rfl, h.add hlt hq_24 ha haq k f (nI c) v _ (by rw [pk_cl c])⟩)
  · have hge : ¬ G.N 0 < 120 := fun z => c_6 ((nI_ltI (a := G.N 0) (b := 120) (by omega) (by decide)).mpr z)
    refine v_bipush C (v := (-2)) d_Bs_addRequest_9 (by decide) ?_
    exact v_iret hQ C rfl d_Bs_addRequest_11 (by omega) (by omega) (Or.inl ⟨by omega, rfl, h⟩)
set_option maxHeartbeats 4000000 in
set_option maxRecDepth 100000 in
theorem ct_Bs_write {D : va_G} {l : Launch} {cI cZ cR cM : ClassId} {M : Mem} {ad : Nat → Nat} {G : G1} (h : R1 cI cR cM M ad G) (hn : G.N 0 ≤ 120) (x n v : Int32) : Ct TT D cls (tyL cI cZ cR cM) l y_Bs_write b_Bs_write 4 (some .int) 3 73 2 9 [.ref (ad 0), .int x, .int n, .int v] M (fun rv M' => (¬ isS x n ∧ rv = some (.int (-1)) ∧ R1 cI cR cM M' ad G) ∨ (isS x n ∧ ((G.N 0 = 120 ∧ rv = some (.int (-2)) ∧ R1 cI cR cM M' ad G) ∨ (G.N 0 < 120 ∧ rv = some (.int (nI (G.N 0))) ∧ ∃ ad', ad' 0 = ad 0 ∧ R1 cI cR cM M' ad' (G.addq 0 x n v))))) := by
  refine ct_of "BlockTargetSession" rfl (by decide) (Nat.le_of_ble_eq_true rfl) ?_
  intro Z hl hD hnm hQ C
  subst hl
  subst hD
  show V cls 4 (rmOf 3 73 2 9) Z 0 [(0, .ref (ad 0)), (1, .int x), (2, .int n), (3, .int v)] [] M 0 0
  refine v_iload_n C (i := 1) d_Bs_write_0 rfl rfl ?_
  refine v_iload_n C (i := 2) d_Bs_write_1 rfl rfl ?_
  refine v_callS C (As := [.int x, .int n]) (rest := []) w_142 (ct_Bs_isStretch x n) (Nat.le_of_ble_eq_true rfl) (Nat.le_of_ble_eq_true rfl) w_143 w_1 hy_Bs_isStretch w_141 rfl (Nat.le_of_ble_eq_true rfl) ⟨by decide, by decide⟩ d_Bs_write_2 (fun rv M hp => ?_)
  rcases hp with ⟨hs, rfl, rfl⟩ | ⟨hs, rfl, rfl⟩
  · refine V.eqst (st' := [.int 1]) rfl (V.cs (k' := 0) (n' := 0) rfl rfl ?_)
    obtain ⟨c, hc3, rfl⟩ : ∃ c : Nat, c ≤ 3 ∧ n = nI c := by
      rcases pk_ix n (n := 4) (by decide) with z | z | ⟨c, z, e⟩
      · exact absurd (show n < 1 from Int32.lt_iff_toInt_lt.mpr (by have := ts_neg z; show n.toInt < 1; omega)) hs.2.1
      · exact absurd (show 3 < n from Int32.lt_iff_toInt_lt.mpr (by have := ts_big (n := 3) z (by decide); exact this)) hs.2.2.1
      · exact ⟨c, by omega, e⟩
    refine v_if_ne C 10 d_Bs_write_5 (by decide) (fun c_5 => ?_) (fun c_5 => absurd c_5 (by decide))
    refine v_aload_n C (i := 0) d_Bs_write_10 rfl rfl ?_
    refine v_iconst C (v := 0) d_Bs_write_11 (by decide) ?_
    refine v_iload_n C (i := 1) d_Bs_write_12 rfl rfl ?_
    refine v_iload_n C (i := 2) d_Bs_write_13 rfl rfl ?_
    refine v_iload_n C (i := 3) d_Bs_write_14 rfl rfl ?_
    refine v_callV C (As := [.int 0, .int x, .int (nI c), .int v]) (rest := []) h.o cl_Bs rfl w_149 wp_1 (ct_Bs_addRequest h hn 0 x c hc3 v) (Nat.le_of_ble_eq_true rfl) (Nat.le_of_ble_eq_true rfl) w_150 w_1 hy_Bs_addRequest w_147 rfl (Nat.le_of_ble_eq_true rfl) ⟨by decide, by decide⟩ d_Bs_write_15 (fun rv M hp => ?_)
    obtain ⟨z, rfl, hz⟩ : ∃ z : Int32, rv = some (.int z) ∧ ((G.N 0 = 120 ∧ z = -2 ∧ R1 cI cR cM M ad G) ∨ (G.N 0 < 120 ∧ z = nI (G.N 0) ∧ ∃ ad', ad' 0 = ad 0 ∧ R1 cI cR cM M ad' (G.addq 0 x (nI c) v))) := by
      rcases hp with ⟨a, e, q⟩ | ⟨a, e, q⟩
      · exact ⟨_, e, Or.inl ⟨a, rfl, q⟩⟩
      · exact ⟨_, e, Or.inr ⟨a, rfl, q⟩⟩
    refine V.eqst (st' := [.int z]) rfl (V.cs (k' := 2) (n' := 9) rfl rfl ?_)
    exact v_iret hQ C rfl d_Bs_write_18 (by omega) (by omega) (Or.inr ⟨hs, by
      rcases hz with ⟨a, e, q⟩ | ⟨a, e, q⟩
      · exact Or.inl ⟨a, by rw [e], q⟩
      · exact Or.inr ⟨a, by rw [e], q⟩⟩)
  · refine V.eqst (st' := [.int 0]) rfl (V.cs (k' := 0) (n' := 0) rfl rfl ?_)
    refine v_if_ne C 10 d_Bs_write_5 (by decide) (fun c_5 => absurd (rfl) c_5) (fun c_5 => ?_)
    refine v_iconst C (v := (-1)) d_Bs_write_8 (by decide) ?_
    exact v_iret hQ C rfl d_Bs_write_9 (by omega) (by omega) (Or.inl ⟨hs, rfl, h⟩)
set_option maxHeartbeats 4000000 in
set_option maxRecDepth 100000 in
theorem ct_Bs_read {D : va_G} {l : Launch} {cI cZ cR cM : ClassId} {M : Mem} {ad : Nat → Nat} {G : G1} (h : R1 cI cR cM M ad G) (hn : G.N 0 ≤ 120) (x n : Int32) : Ct TT D cls (tyL cI cZ cR cM) l y_Bs_read b_Bs_read 3 (some .int) 3 73 2 9 [.ref (ad 0), .int x, .int n] M (fun rv M' => (¬ isS x n ∧ rv = some (.int (-1)) ∧ R1 cI cR cM M' ad G) ∨ (isS x n ∧ ((G.N 0 = 120 ∧ rv = some (.int (-2)) ∧ R1 cI cR cM M' ad G) ∨ (G.N 0 < 120 ∧ rv = some (.int (nI (G.N 0))) ∧ ∃ ad', ad' 0 = ad 0 ∧ R1 cI cR cM M' ad' (G.addq 1 x n 0))))) := by
  refine ct_of "BlockTargetSession" rfl (by decide) (Nat.le_of_ble_eq_true rfl) ?_
  intro Z hl hD hnm hQ C
  subst hl
  subst hD
  show V cls 3 (rmOf 3 73 2 9) Z 0 [(0, .ref (ad 0)), (1, .int x), (2, .int n)] [] M 0 0
  refine v_iload_n C (i := 1) d_Bs_read_0 rfl rfl ?_
  refine v_iload_n C (i := 2) d_Bs_read_1 rfl rfl ?_
  refine v_callS C (As := [.int x, .int n]) (rest := []) w_142 (ct_Bs_isStretch x n) (Nat.le_of_ble_eq_true rfl) (Nat.le_of_ble_eq_true rfl) w_143 w_1 hy_Bs_isStretch w_141 rfl (Nat.le_of_ble_eq_true rfl) ⟨by decide, by decide⟩ d_Bs_read_2 (fun rv M hp => ?_)
  rcases hp with ⟨hs, rfl, rfl⟩ | ⟨hs, rfl, rfl⟩
  · refine V.eqst (st' := [.int 1]) rfl (V.cs (k' := 0) (n' := 0) rfl rfl ?_)
    obtain ⟨c, hc3, rfl⟩ : ∃ c : Nat, c ≤ 3 ∧ n = nI c := by
      rcases pk_ix n (n := 4) (by decide) with z | z | ⟨c, z, e⟩
      · exact absurd (show n < 1 from Int32.lt_iff_toInt_lt.mpr (by have := ts_neg z; show n.toInt < 1; omega)) hs.2.1
      · exact absurd (show 3 < n from Int32.lt_iff_toInt_lt.mpr (by have := ts_big (n := 3) z (by decide); exact this)) hs.2.2.1
      · exact ⟨c, by omega, e⟩
    refine v_if_ne C 10 d_Bs_read_5 (by decide) (fun c_5 => ?_) (fun c_5 => absurd c_5 (by decide))
    refine v_aload_n C (i := 0) d_Bs_read_10 rfl rfl ?_
    refine v_iconst C (v := 1) d_Bs_read_11 (by decide) ?_
    refine v_iload_n C (i := 1) d_Bs_read_12 rfl rfl ?_
    refine v_iload_n C (i := 2) d_Bs_read_13 rfl rfl ?_
    refine v_iconst C (v := 0) d_Bs_read_14 (by decide) ?_
    refine v_callV C (As := [.int 1, .int x, .int (nI c), .int 0]) (rest := []) h.o cl_Bs rfl w_149 wp_1 (ct_Bs_addRequest h hn 1 x c hc3 0) (Nat.le_of_ble_eq_true rfl) (Nat.le_of_ble_eq_true rfl) w_150 w_1 hy_Bs_addRequest w_147 rfl (Nat.le_of_ble_eq_true rfl) ⟨by decide, by decide⟩ d_Bs_read_15 (fun rv M hp => ?_)
    obtain ⟨z, rfl, hz⟩ : ∃ z : Int32, rv = some (.int z) ∧ ((G.N 0 = 120 ∧ z = -2 ∧ R1 cI cR cM M ad G) ∨ (G.N 0 < 120 ∧ z = nI (G.N 0) ∧ ∃ ad', ad' 0 = ad 0 ∧ R1 cI cR cM M ad' (G.addq 1 x (nI c) 0))) := by
      rcases hp with ⟨a, e, q⟩ | ⟨a, e, q⟩
      · exact ⟨_, e, Or.inl ⟨a, rfl, q⟩⟩
      · exact ⟨_, e, Or.inr ⟨a, rfl, q⟩⟩
    refine V.eqst (st' := [.int z]) rfl (V.cs (k' := 2) (n' := 9) rfl rfl ?_)
    exact v_iret hQ C rfl d_Bs_read_18 (by omega) (by omega) (Or.inr ⟨hs, by
      rcases hz with ⟨a, e, q⟩ | ⟨a, e, q⟩
      · exact Or.inl ⟨a, by rw [e], q⟩
      · exact Or.inr ⟨a, by rw [e], q⟩⟩)
  · refine V.eqst (st' := [.int 0]) rfl (V.cs (k' := 0) (n' := 0) rfl rfl ?_)
    refine v_if_ne C 10 d_Bs_read_5 (by decide) (fun c_5 => absurd (rfl) c_5) (fun c_5 => ?_)
    refine v_iconst C (v := (-1)) d_Bs_read_8 (by decide) ?_
    exact v_iret hQ C rfl d_Bs_read_9 (by omega) (by omega) (Or.inl ⟨hs, rfl, h⟩)
set_option maxHeartbeats 4000000 in
set_option maxRecDepth 100000 in
theorem ct_Bs_sync {D : va_G} {l : Launch} {cI cZ cR cM : ClassId} {M : Mem} {ad : Nat → Nat} {G : G1} (h : R1 cI cR cM M ad G) (hn : G.N 0 ≤ 120) : Ct TT D cls (tyL cI cZ cR cM) l y_Bs_sync b_Bs_sync 1 (some .int) 3 73 2 9 [.ref (ad 0)] M (fun rv M' => (G.N 0 = 120 ∧ rv = some (.int (-2)) ∧ R1 cI cR cM M' ad G) ∨ (G.N 0 < 120 ∧ rv = some (.int (nI (G.N 0))) ∧ ∃ ad', ad' 0 = ad 0 ∧ R1 cI cR cM M' ad' (G.addq 2 0 0 0))) := by
  refine ct_of "BlockTargetSession" rfl (by decide) (Nat.le_of_ble_eq_true rfl) ?_
  intro Z hl hD hnm hQ C
  subst hl
  subst hD
  show V cls 1 (rmOf 3 73 2 9) Z 0 [(0, .ref (ad 0))] [] M 0 0
  refine v_aload_n C (i := 0) d_Bs_sync_0 rfl rfl ?_
  refine v_iconst C (v := 2) d_Bs_sync_1 (by decide) ?_
  refine v_iconst C (v := 0) d_Bs_sync_2 (by decide) ?_
  refine v_iconst C (v := 0) d_Bs_sync_3 (by decide) ?_
  refine v_iconst C (v := 0) d_Bs_sync_4 (by decide) ?_
  refine v_callV C (As := [.int 2, .int 0, .int 0, .int 0]) (rest := []) h.o cl_Bs rfl w_149 wp_1 (ct_Bs_addRequest h hn 2 0 0 (by decide) 0) (Nat.le_of_ble_eq_true rfl) (Nat.le_of_ble_eq_true rfl) w_150 w_1 hy_Bs_addRequest w_147 rfl (Nat.le_of_ble_eq_true rfl) ⟨by decide, by decide⟩ d_Bs_sync_5 (fun rv M hp => ?_)
  obtain ⟨z, rfl, hz⟩ : ∃ z : Int32, rv = some (.int z) ∧ ((G.N 0 = 120 ∧ z = -2 ∧ R1 cI cR cM M ad G) ∨ (G.N 0 < 120 ∧ z = nI (G.N 0) ∧ ∃ ad', ad' 0 = ad 0 ∧ R1 cI cR cM M ad' (G.addq 2 0 0 0))) := by
    rcases hp with ⟨a, e, q⟩ | ⟨a, e, q⟩
    · exact ⟨_, e, Or.inl ⟨a, rfl, q⟩⟩
    · exact ⟨_, e, Or.inr ⟨a, rfl, q⟩⟩
  refine V.eqst (st' := [.int z]) rfl (V.cs (k' := 2) (n' := 9) rfl rfl ?_)
  exact v_iret hQ C rfl d_Bs_sync_8 (by omega) (by omega) (by
    rcases hz with ⟨a, e, q⟩ | ⟨a, e, q⟩
    · exact Or.inl ⟨a, by rw [e], q⟩
    · exact Or.inr ⟨a, by rw [e], q⟩)
