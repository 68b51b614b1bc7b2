set_option maxHeartbeats 4000000 in
set_option maxRecDepth 100000 in
theorem ct_St_put {D : va_G} {l : Launch} {cI cZ cR cM : ClassId} {M : Mem} {ad : Nat → Nat} {G : G1} (h : R1 cI cR cM M ad G) (hc : cOK G) (hcr : G.N 1 ≤ G.N 4) (b : Nat) (hb : b < 16) (v : Int32) : Ct TT D cls (tyL cI cZ cR cM) l y_St_put b_St_put 4 none 1 22 0 0 [.ref (ad 1), .int (nI b), .int v] M (fun rv M' => rv = none ∧ R1 cI cR cM M' ad (G.pt (nI b) v)) := by
  refine ct_of "BlockTargetSession$Store" rfl (by decide) (Nat.le_of_ble_eq_true rfl) ?_
  intro Z hl hD hnm hQ C
  subst hl
  subst hD
  show V cls 4 (rmOf 1 22 0 0) Z 0 [(0, .ref (ad 1)), (1, .int (nI b)), (2, .int v)] [] M 0 0
  have hcc := hc
  obtain ⟨hr6, hcs, hcb⟩ := hcc
  refine v_aload_n C (i := 0) d_St_put_0 rfl rfl ?_
  refine v_iload_n C (i := 1) d_St_put_1 rfl rfl ?_
  refine v_callV C (As := [.int (nI b)]) (rest := []) h.st cl_St rfl w_258 wp_10 (ct_St_placeOf h hc (nI b)) (Nat.le_of_ble_eq_true rfl) (Nat.le_of_ble_eq_true rfl) w_259 w_5 hy_St_placeOf w_256 rfl (Nat.le_of_ble_eq_true rfl) ⟨by decide, by decide⟩ d_St_put_2 (fun rv M hp => ?_)
  obtain ⟨rfl, hp⟩ := hp
  rcases hp with ⟨hlt, rfl⟩ | ⟨heq, rfl⟩
  · refine V.eqst (st' := [.int (nI (plc (G.T 1) (nI b) (G.N 1)))]) rfl (V.cs (k' := 0) (n' := 0) rfl rfl ?_)
    refine v_istore_n C (i := 3) (lv' := [(3, .int (nI (plc (G.T 1) (nI b) (G.N 1)))), (0, .ref (ad 1)), (1, .int (nI b)), (2, .int v)]) d_St_put_5 rfl (by decide) rfl ?_
    refine v_iload_n C (i := 3) d_St_put_6 rfl rfl ?_
    refine v_bipush C (v := (-3)) d_St_put_7 (by decide) ?_
    refine v_icmp_eq C 20 d_St_put_9 (by decide) (fun c_9 => absurd c_9 (fun z => nI_pos (n := plc (G.T 1) (nI b) (G.N 1)) (by omega) (by rw [z]; decide))) (fun c_9 => ?_)
    refine v_aload_n C (i := 0) d_St_put_12 rfl rfl ?_
    refine v_get C (v := .ref (ad 4)) in_St h.st cl_St 3 (by decide) w_84 rfl rfl d_St_put_13 ?_
    refine v_iload_n C (i := 3) d_St_put_16 rfl rfl ?_
    refine v_iload_n C (i := 2) d_St_put_17 rfl rfl ?_
    refine v_iast C (N := G.N 4 + 1) (f := G.T 2) 0 h.cv rfl (pk_in (plc (G.T 1) (nI b) (G.N 1)) (G.N 4 + 1) (by omega)) d_St_put_18 ?_
    rw [show Int32.toNatClampNeg (nI (plc (G.T 1) (nI b) (G.N 1))) = plc (G.T 1) (nI b) (G.N 1) from pk_cl _ (hx := rfl)]
    have h : R1 cI cR cM (mset M (ad 4) (aI cI (G.N 4 + 1) (upd (G.T 2) (plc (G.T 1) (nI b) (G.N 1)) v))) ad (G.sT 2 (upd (G.T 2) (plc (G.T 1) (nI b) (G.N 1)) v)) := h.pcv (upd (G.T 2) (plc (G.T 1) (nI b) (G.N 1)) v)
    revert h
    generalize mset M (ad 4) (aI cI (G.N 4 + 1) (upd (G.T 2) (plc (G.T 1) (nI b) (G.N 1)) v)) = M
    intro h
    exact v_vret hQ C rfl d_St_put_19 (by omega) (by omega) ⟨rfl, by rw [G1.pt, if_pos hlt]; exact h⟩
  · refine V.eqst (st' := [.int (-3)]) rfl (V.cs (k' := 0) (n' := 0) rfl rfl ?_)
    refine v_istore_n C (i := 3) (lv' := [(3, .int (-3)), (0, .ref (ad 1)), (1, .int (nI b)), (2, .int v)]) d_St_put_5 rfl (by decide) rfl ?_
    refine v_iload_n C (i := 3) d_St_put_6 rfl rfl ?_
    refine v_bipush C (v := (-3)) d_St_put_7 (by decide) ?_
    refine v_icmp_eq C 20 d_St_put_9 (by decide) (fun c_9 => ?_) (fun c_9 => absurd (rfl) c_9)
    refine v_aload_n C (i := 0) d_St_put_20 rfl rfl ?_
    refine v_get C (v := .ref (ad 3)) in_St h.st cl_St 2 (by decide) w_83 rfl rfl d_St_put_21 ?_
    refine v_aload_n C (i := 0) d_St_put_24 rfl rfl ?_
    refine v_get C (v := .int (nI (G.N 1))) in_St h.st cl_St 4 (by decide) w_85 rfl rfl d_St_put_25 ?_
    refine v_iload_n C (i := 1) d_St_put_28 rfl rfl ?_
    refine v_iast C (N := G.N 4 + 1) (f := G.T 1) 0 h.cb rfl (pk_in (G.N 1) (G.N 4 + 1) (by omega)) d_St_put_29 ?_
    rw [show Int32.toNatClampNeg (nI (G.N 1)) = G.N 1 from pk_cl _ (hx := rfl)]
    have h : R1 cI cR cM (mset M (ad 3) (aI cI (G.N 4 + 1) (upd (G.T 1) (G.N 1) (nI b)))) ad (G.sT 1 (upd (G.T 1) (G.N 1) (nI b))) := h.pcb (upd (G.T 1) (G.N 1) (nI b))
    revert h
    generalize mset M (ad 3) (aI cI (G.N 4 + 1) (upd (G.T 1) (G.N 1) (nI b))) = M
    intro h
    refine v_aload_n C (i := 0) d_St_put_30 rfl rfl ?_
    refine v_get C (v := .ref (ad 4)) in_St h.st cl_St 3 (by decide) w_84 rfl rfl d_St_put_31 ?_
    refine v_aload_n C (i := 0) d_St_put_34 rfl rfl ?_
    refine v_get C (v := .int (nI (G.N 1))) in_St h.st cl_St 4 (by decide) w_85 rfl rfl d_St_put_35 ?_
    refine v_iload_n C (i := 2) d_St_put_38 rfl rfl ?_
    refine v_iast C (N := G.N 4 + 1) (f := G.T 2) 0 h.cv rfl (pk_in (G.N 1) (G.N 4 + 1) (by omega)) d_St_put_39 ?_
    rw [show Int32.toNatClampNeg (nI (G.N 1)) = G.N 1 from pk_cl _ (hx := rfl)]
    have h : R1 cI cR cM (mset M (ad 4) (aI cI (G.N 4 + 1) (upd (G.T 2) (G.N 1) v))) ad ((G.sT 1 (upd (G.T 1) (G.N 1) (nI b))).sT 2 (upd (G.T 2) (G.N 1) v)) := h.pcv (upd (G.T 2) (G.N 1) v)
    revert h
    generalize mset M (ad 4) (aI cI (G.N 4 + 1) (upd (G.T 2) (G.N 1) v)) = M
    intro h
    refine v_aload_n C (i := 0) d_St_put_40 rfl rfl ?_
    refine v_dup C d_St_put_41 rfl ?_
    refine v_get C (v := .int (nI (G.N 1))) in_St h.st cl_St 4 (by decide) w_85 rfl rfl d_St_put_42 ?_
    refine v_iconst C (v := 1) d_St_put_45 (by decide) ?_
    refine v_iadd C d_St_put_46 ?_
    refine V.eqst (st' := [.int (nI (G.N 1 + 1)), .ref (ad 1)]) (by rw [nI_1]) ?_
    refine v_put C in_St t_St to_St nm_St h.st cl_St 4 (by decide) (fs' := [.int (nI (G.N 4)), .ref (ad 2), .ref (ad 3), .ref (ad 4), .int (nI (G.N 1 + 1))]) w_85 rfl rfl rfl rfl (Nat.le_of_ble_eq_true rfl) rfl d_St_put_47 ?_
    have h : R1 cI cR cM (mset M (ad 1) (ob 3 [.int (nI (G.N 4)), .ref (ad 2), .ref (ad 3), .ref (ad 4), .int (nI (G.N 1 + 1))])) ad (((G.sT 1 (upd (G.T 1) (G.N 1) (nI b))).sT 2 (upd (G.T 2) (G.N 1) v)).sN 1 (G.N 1 + 1)) := h.pcs (G.N 1 + 1)
    revert h
    generalize mset M (ad 1) (ob 3 [.int (nI (G.N 4)), .ref (ad 2), .ref (ad 3), .ref (ad 4), .int (nI (G.N 1 + 1))]) = M
    intro h
    refine v_aload_n C (i := 0) d_St_put_50 rfl rfl ?_
    refine v_get C (v := .int (nI (G.N 1 + 1))) in_St h.st cl_St 4 (by decide) w_85 rfl rfl d_St_put_51 ?_
    refine v_aload_n C (i := 0) d_St_put_54 rfl rfl ?_
    refine v_get C (v := .int (nI (G.N 4))) in_St h.st cl_St 0 (by decide) w_80 rfl rfl d_St_put_55 ?_
    refine v_icmp_le C 66 d_St_put_58 (by decide) (fun c_58 => ?_) (fun c_58 => ?_)
    · have hle : G.N 1 + 1 ≤ G.N 4 := (nI_leI (by omega) (by omega)).mp c_58
      exact v_vret hQ C rfl d_St_put_66 (by omega) (by omega) ⟨rfl, by rw [G1.pt, if_neg (by omega), if_pos hle]; exact h⟩
    · have hle : ¬ G.N 1 + 1 ≤ G.N 4 := fun z => c_58 ((nI_leI (by omega) (by omega)).mpr z)
      have hc2 : cOK (((G.sT 1 (upd (G.T 1) (G.N 1) (nI b))).sT 2 (upd (G.T 2) (G.N 1) v)).sN 1 (G.N 1 + 1)) := ⟨hr6, (by show G.N 1 + 1 ≤ G.N 4 + 1; omega), fun j hj => by
        show ∃ b_1, b_1 < 16 ∧ upd (G.T 1) (G.N 1) (nI b) j = nI b_1
        by_cases c : j = G.N 1
        · subst c; exact ⟨b, hb, pk_us⟩
        · rw [pk_un c]; exact hcb j (by have : j < G.N 1 + 1 := hj; omega)⟩
      refine v_aload_n C (i := 0) d_St_put_61 rfl rfl ?_
      refine v_callV C (As := []) (rest := []) h.st cl_St rfl w_261 w_262 (ct_St_writeBackFirst h hc2) (Nat.le_of_ble_eq_true rfl) (Nat.le_of_ble_eq_true rfl) w_263 w_5 hy_St_writeBackFirst w_260 rfl (Nat.le_of_ble_eq_true rfl) ⟨by decide, by decide⟩ d_St_put_62 (fun rv M hp => ?_)
      obtain ⟨z, rfl, hw⟩ : ∃ z : Int32, rv = some (.int z) ∧ R1 cI cR cM M ad (G1.wb (((G.sT 1 (upd (G.T 1) (G.N 1) (nI b))).sT 2 (upd (G.T 2) (G.N 1) v)).sN 1 (G.N 1 + 1))) := by
        rcases hp with ⟨_, e, q⟩ | ⟨_, e, q⟩
        · exact ⟨_, e, q⟩
        · exact ⟨_, e, q⟩
      refine V.eqst (st' := [.int z]) rfl (V.cs (k' := 0) (n' := 0) rfl rfl ?_)
      refine v_pop C d_St_put_65 rfl ?_
      exact v_vret hQ C rfl d_St_put_66 (by omega) (by omega) ⟨rfl, by rw [G1.pt, if_neg (by omega), if_neg hle]; exact hw⟩
set_option maxHeartbeats 4000000 in
set_option maxRecDepth 100000 in
theorem ct_St_writeBackAll {D : va_G} {l : Launch} {cI cZ cR cM : ClassId} {M : Mem} {ad : Nat → Nat} {G : G1} (h : R1 cI cR cM M ad G) (hc : cOK G) : Ct TT D cls (tyL cI cZ cR cM) l y_St_writeBackAll b_St_writeBackAll 2 none 1 22 0 0 [.ref (ad 1)] M (fun rv M' => rv = none ∧ R1 cI cR cM M' ad (G.wbn (G.N 1))) := by
  refine ct_of "BlockTargetSession$Store" rfl (by decide) (Nat.le_of_ble_eq_true rfl) ?_
  intro Z hl hD hnm hQ C
  subst hl
  subst hD
  show V cls 2 (rmOf 1 22 0 0) Z 0 [(0, .ref (ad 1))] [] M 0 0
  have hcc := hc
  obtain ⟨hr6, hcs, hcb⟩ := hcc
  refine v_aload_n C (i := 0) d_St_writeBackAll_0 rfl rfl ?_
  refine v_get C (v := .int (nI (G.N 1))) in_St h.st cl_St 4 (by decide) w_85 rfl rfl d_St_writeBackAll_1 ?_
  refine v_istore_n C (i := 1) (lv' := [(1, .int (nI (G.N 1))), (0, .ref (ad 1))]) d_St_writeBackAll_4 rfl (by decide) rfl ?_
  have L : ∀ (k j : Nat) (M : Mem), k + j = G.N 1 → R1 cI cR cM M ad (G.wbn j) → V cls 2 (rmOf 1 22 0 0) Z 5 [(1, .int (nI k)), (0, .ref (ad 1))] [] M 0 0 := by
    intro k
    induction k with
    | zero =>
      intro j M hj h
      refine v_iload_n C (i := 1) d_St_writeBackAll_5 rfl rfl ?_
      refine v_if_le C 20 d_St_writeBackAll_6 (by decide) (fun c_6 => ?_) (fun c_6 => absurd (by rw [nI_0]; decide) c_6)
      exact v_vret hQ C rfl d_St_writeBackAll_20 (by omega) (by omega) ⟨rfl, by rw [show G.N 1 = j from by omega]; exact h⟩
    | succ k ih =>
      intro j M hj h
      refine v_iload_n C (i := 1) d_St_writeBackAll_5 rfl rfl ?_
      refine v_if_le C 20 d_St_writeBackAll_6 (by decide) (fun c_6 => absurd c_6 (nI_nle (by omega) (by omega))) (fun c_6 => ?_)
      refine v_aload_n C (i := 0) d_St_writeBackAll_9 rfl rfl ?_
      refine v_callV C (As := []) (rest := []) h.st cl_St rfl w_261 w_262 (ct_St_writeBackFirst h (wbn_cOK hc j)) (Nat.le_of_ble_eq_true rfl) (Nat.le_of_ble_eq_true rfl) w_263 w_5 hy_St_writeBackFirst w_260 rfl (Nat.le_of_ble_eq_true rfl) ⟨by decide, by decide⟩ d_St_writeBackAll_10 (fun rv M hp => ?_)
      obtain ⟨z, rfl, hw⟩ : ∃ z : Int32, rv = some (.int z) ∧ R1 cI cR cM M ad ((G.wbn j).wb) := by
        rcases hp with ⟨_, e, q⟩ | ⟨_, e, q⟩
        · exact ⟨_, e, q⟩
        · exact ⟨_, e, q⟩
      refine V.eqst (st' := [.int z]) rfl (V.cs (k' := 0) (n' := 0) rfl rfl ?_)
      refine v_pop C d_St_writeBackAll_13 rfl ?_
      refine v_iinc C (i := 1) (j := 0) (v := nI k) (lv' := [(1, .int (nI k)), (0, .ref (ad 1))]) d_St_writeBackAll_14 rfl (pk_m1 k) (by decide) rfl ?_
      refine v_goto C 5 d_St_writeBackAll_17 (by decide) ?_
      exact ih (j + 1) M (by omega) hw
  exact L (G.N 1) 0 M (by omega) h
