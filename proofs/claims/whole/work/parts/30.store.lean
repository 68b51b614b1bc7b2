set_option maxHeartbeats 4000000 in
set_option maxRecDepth 100000 in
theorem ct_St_loseCache {D : va_G} {l : Launch} {cI cZ cR cM : ClassId} {M : Mem} {ad : Nat → Nat} {G : G1} (h : R1 cI cR cM M ad G)  : Ct TT D cls (tyL cI cZ cR cM) l y_St_loseCache b_St_loseCache 1 none 0 0 0 0 [.ref (ad 1)] M (fun rv M' => rv = none ∧ R1 cI cR cM M' ad (G.sN 1 0)) := by
  refine ct_of "BlockTargetSession$Store" rfl (by decide) (Nat.le_of_ble_eq_true rfl) ?_
  intro Z hl hD hnm hQ C
  subst hl
  subst hD
  show V cls 1 (rmOf 0 0 0 0) Z 0 [(0, .ref (ad 1))] [] M 0 0
  refine v_aload_n C (i := 0) d_St_loseCache_0 rfl rfl ?_
  refine v_iconst C (v := 0) d_St_loseCache_1 (by decide) ?_
  refine V.eqst (st' := [.int (nI 0), .ref (ad 1)]) (by rw [nI_0]) ?_
  refine v_put C in_St t_St to_St nm_St h.st cl_St 4 (by decide) (fs' := [.int (nI (G.N 4)), .ref (ad 2), .ref (ad 3), .ref (ad 4), .int (nI 0)]) w_85 rfl rfl rfl rfl (Nat.le_of_ble_eq_true rfl) rfl d_St_loseCache_2 ?_
  have h : R1 cI cR cM (mset M (ad 1) (ob 3 [.int (nI (G.N 4)), .ref (ad 2), .ref (ad 3), .ref (ad 4), .int (nI 0)])) ad (G.sN 1 0) := h.pcs 0
  revert h
  generalize mset M (ad 1) (ob 3 [.int (nI (G.N 4)), .ref (ad 2), .ref (ad 3), .ref (ad 4), .int (nI 0)]) = M
  intro h
  exact v_vret hQ C rfl d_St_loseCache_5 (by omega) (by omega) ⟨rfl, h⟩
set_option maxHeartbeats 4000000 in
set_option maxRecDepth 100000 in
theorem ct_St_placeOf {D : va_G} {l : Launch} {cI cZ cR cM : ClassId} {M : Mem} {ad : Nat → Nat} {G : G1} (h : R1 cI cR cM M ad G) (hc : cOK G) (b : Int32) : Ct TT D cls (tyL cI cZ cR cM) l y_St_placeOf b_St_placeOf 3 (some .int) 0 0 0 0 [.ref (ad 1), .int b] M (fun rv M' => M' = M ∧ ((plc (G.T 1) b (G.N 1) < G.N 1 ∧ rv = some (.int (nI (plc (G.T 1) b (G.N 1))))) ∨ (plc (G.T 1) b (G.N 1) = G.N 1 ∧ rv = some (.int (-3))))) := by
  refine ct_of "BlockTargetSession$Store" rfl (by decide) (Nat.le_of_ble_eq_true rfl) ?_
  intro Z hl hD hnm hQ C
  subst hl
  subst hD
  show V cls 3 (rmOf 0 0 0 0) Z 0 [(0, .ref (ad 1)), (1, .int b)] [] M 0 0
  obtain ⟨hr6, hcs, hcb⟩ := hc
  refine v_iconst C (v := 0) d_St_placeOf_0 (by decide) ?_
  refine v_istore_n C (i := 2) (lv' := [(2, .int 0), (0, .ref (ad 1)), (1, .int b)]) d_St_placeOf_1 rfl (by decide) rfl ?_
  have L : ∀ (fu i : Nat), G.N 1 - i < fu → i ≤ G.N 1 → (∀ q, q < i → G.T 1 q ≠ b) → V cls 3 (rmOf 0 0 0 0) Z 2 [(2, .int (nI i)), (0, .ref (ad 1)), (1, .int b)] [] M 0 0 := by
    intro fu
    induction fu with
    | zero => intro i hf; omega
    | succ fu ih =>
      intro i hf hi hq
      refine v_iload_n C (i := 2) d_St_placeOf_2 rfl rfl ?_
      refine v_aload_n C (i := 0) d_St_placeOf_3 rfl rfl ?_
      refine v_get C (v := .int (nI (G.N 1))) in_St h.st cl_St 4 (by decide) w_85 rfl rfl d_St_placeOf_4 ?_
      refine v_icmp_ge C 28 d_St_placeOf_7 (by decide) (fun c_7 => ?_) (fun c_7 => ?_)
      · have hi2 : i = G.N 1 := Nat.le_antisymm hi ((nI_leI (by omega) (by omega)).mp c_7)
        refine v_bipush C (v := (-3)) d_St_placeOf_28 (by decide) ?_
        exact v_iret hQ C rfl d_St_placeOf_30 (by omega) (by omega) ⟨rfl, Or.inr ⟨plc_no _ (fun q hq2 => hq q (by omega)), rfl⟩⟩
      · have hi2 : i < G.N 1 := Nat.lt_of_not_le (fun h => c_7 ((nI_leI (by omega) (by omega)).mpr h))
        refine v_aload_n C (i := 0) d_St_placeOf_10 rfl rfl ?_
        refine v_get C (v := .ref (ad 3)) in_St h.st cl_St 2 (by decide) w_83 rfl rfl d_St_placeOf_11 ?_
        refine v_iload_n C (i := 2) d_St_placeOf_14 rfl rfl ?_
        refine v_iald C (N := G.N 4 + 1) (f := G.T 1) 0 h.cb rfl (pk_in i (G.N 4 + 1) (by omega)) d_St_placeOf_15 ?_
        refine V.eqst (st' := [.int ((G.T 1) i)]) (by rw [show Int32.toNatClampNeg (nI i) = i from pk_cl _ (hx := rfl)]) ?_
        refine v_iload_n C (i := 1) d_St_placeOf_16 rfl rfl ?_
        refine v_icmp_ne C 22 d_St_placeOf_17 (by decide) (fun c_17 => ?_) (fun c_17 => ?_)
        · refine v_iinc C (i := 2) (j := 0) (v := nI (i + 1)) (lv' := [(2, .int (nI (i + 1))), (0, .ref (ad 1)), (1, .int b)]) d_St_placeOf_22 rfl (nI_1 i) (by decide) rfl ?_
          refine v_goto C 2 d_St_placeOf_25 (by decide) ?_
          exact ih (i + 1) (by omega) (by omega) (fun q hq2 => by
            by_cases c : q = i
            · subst c; exact c_17
            · exact hq q (by omega))
        · refine v_iload_n C (i := 2) d_St_placeOf_20 rfl rfl ?_
          exact v_iret hQ C rfl d_St_placeOf_21 (by omega) (by omega) ⟨rfl, Or.inl ⟨by rw [plc_of c_17 hq _ hi2]; exact hi2, by rw [plc_of c_17 hq _ hi2]⟩⟩
  refine V.pick (lv' := [(2, .int (nI 0)), (0, .ref (ad 1)), (1, .int b)]) [0, 1, 2] (by rw [nI_0]; rfl) ?_
  exact L (G.N 1 + 1) 0 (by omega) (by omega) (fun q hq => absurd hq (Nat.not_lt_zero q))
set_option maxHeartbeats 4000000 in
set_option maxRecDepth 100000 in
theorem ct_St_presentInt {D : va_G} {l : Launch} {cI cZ cR cM : ClassId} {M : Mem} {ad : Nat → Nat} {G : G1} (h : R1 cI cR cM M ad G) (hc : cOK G) (b : Nat) (hb : b < 16) : Ct TT D cls (tyL cI cZ cR cM) l y_St_presentInt b_St_presentInt 3 (some .int) 1 22 0 0 [.ref (ad 1), .int (nI b)] M (fun rv M' => M' = M ∧ rv = some (.int (G.pv b))) := by
  refine ct_of "BlockTargetSession$Store" rfl (by decide) (Nat.le_of_ble_eq_true rfl) ?_
  intro Z hl hD hnm hQ C
  subst hl
  subst hD
  show V cls 3 (rmOf 1 22 0 0) Z 0 [(0, .ref (ad 1)), (1, .int (nI b))] [] M 0 0
  refine v_aload_n C (i := 0) d_St_presentInt_0 rfl rfl ?_
  refine v_iload_n C (i := 1) d_St_presentInt_1 rfl rfl ?_
  refine v_callV C (As := [.int (nI b)]) (rest := []) h.st cl_St rfl w_258 wp_10 (ct_St_placeOf h hc (nI b)) (Nat.le_of_ble_eq_true rfl) (Nat.le_of_ble_eq_true rfl) w_259 w_5 hy_St_placeOf w_256 rfl (Nat.le_of_ble_eq_true rfl) ⟨by decide, by decide⟩ d_St_presentInt_2 (fun rv M hp => ?_)
  obtain ⟨rfl, hp⟩ := hp
  rcases hp with ⟨hlt, rfl⟩ | ⟨heq, rfl⟩
  · refine V.eqst (st' := [.int (nI (plc (G.T 1) (nI b) (G.N 1)))]) rfl (V.cs (k' := 0) (n' := 0) rfl rfl ?_)
    have hcc := hc
    obtain ⟨hr6, hcs, hcb⟩ := hcc
    refine v_istore_n C (i := 2) (lv' := [(2, .int (nI (plc (G.T 1) (nI b) (G.N 1)))), (0, .ref (ad 1)), (1, .int (nI b))]) d_St_presentInt_5 rfl (by decide) rfl ?_
    refine v_iload_n C (i := 2) d_St_presentInt_6 rfl rfl ?_
    refine v_bipush C (v := (-3)) d_St_presentInt_7 (by decide) ?_
    refine v_icmp_ne C 21 d_St_presentInt_9 (by decide) (fun c_9 => ?_) (fun c_9 => absurd c_9 (fun z => nI_pos (n := plc (G.T 1) (nI b) (G.N 1)) (by omega) (by rw [z]; decide)))
    refine v_aload_n C (i := 0) d_St_presentInt_21 rfl rfl ?_
    refine v_get C (v := .ref (ad 4)) in_St h.st cl_St 3 (by decide) w_84 rfl rfl d_St_presentInt_22 ?_
    refine v_iload_n C (i := 2) d_St_presentInt_25 rfl rfl ?_
    refine v_iald C (N := G.N 4 + 1) (f := G.T 2) 0 h.cv rfl (pk_in (plc (G.T 1) (nI b) (G.N 1)) (G.N 4 + 1) (by omega)) d_St_presentInt_26 ?_
    refine V.eqst (st' := [.int ((G.T 2) (plc (G.T 1) (nI b) (G.N 1)))]) (by rw [show Int32.toNatClampNeg (nI (plc (G.T 1) (nI b) (G.N 1))) = plc (G.T 1) (nI b) (G.N 1) from pk_cl _ (hx := rfl)]) ?_
    exact v_iret hQ C rfl d_St_presentInt_27 (by omega) (by omega) ⟨rfl, by rw [G1.pv, if_pos hlt]⟩
  · refine V.eqst (st' := [.int (-3)]) rfl (V.cs (k' := 0) (n' := 0) rfl rfl ?_)
    refine v_istore_n C (i := 2) (lv' := [(2, .int (-3)), (0, .ref (ad 1)), (1, .int (nI b))]) d_St_presentInt_5 rfl (by decide) rfl ?_
    refine v_iload_n C (i := 2) d_St_presentInt_6 rfl rfl ?_
    refine v_bipush C (v := (-3)) d_St_presentInt_7 (by decide) ?_
    refine v_icmp_ne C 21 d_St_presentInt_9 (by decide) (fun c_9 => absurd (rfl) c_9) (fun c_9 => ?_)
    refine v_aload_n C (i := 0) d_St_presentInt_12 rfl rfl ?_
    refine v_get C (v := .ref (ad 2)) in_St h.st cl_St 1 (by decide) w_81 rfl rfl d_St_presentInt_13 ?_
    refine v_iload_n C (i := 1) d_St_presentInt_16 rfl rfl ?_
    refine v_iald C (N := 16) (f := G.T 0) 0 h.dk rfl (pk_in b 16 hb) d_St_presentInt_17 ?_
    refine V.eqst (st' := [.int ((G.T 0) b)]) (by rw [show Int32.toNatClampNeg (nI b) = b from pk_cl _ (hx := rfl)]) ?_
    refine v_goto C 27 d_St_presentInt_18 (by decide) ?_
    exact v_iret hQ C rfl d_St_presentInt_27 (by omega) (by omega) ⟨rfl, by rw [G1.pv, if_neg (by omega)]⟩
set_option maxHeartbeats 4000000 in
set_option maxRecDepth 100000 in
theorem ct_St_blockAt {D : va_G} {l : Launch} {cI cZ cR cM : ClassId} {M : Mem} {ad : Nat → Nat} {G : G1} (h : R1 cI cR cM M ad G) (hc : cOK G) (x : Int32) : Ct TT D cls (tyL cI cZ cR cM) l y_St_blockAt b_St_blockAt 2 (some .int) 0 0 0 0 [.ref (ad 1), .int x] M (fun rv M' => M' = M ∧ (((x < 0 ∨ nI (G.N 1) ≤ x) ∧ rv = some (.int (-3))) ∨ ∃ j, j < G.N 1 ∧ x = nI j ∧ rv = some (.int (G.T 1 j)))) := by
  refine ct_of "BlockTargetSession$Store" rfl (by decide) (Nat.le_of_ble_eq_true rfl) ?_
  intro Z hl hD hnm hQ C
  subst hl
  subst hD
  show V cls 2 (rmOf 0 0 0 0) Z 0 [(0, .ref (ad 1)), (1, .int x)] [] M 0 0
  obtain ⟨hr6, hcs, hcb⟩ := hc
  refine v_iload_n C (i := 1) d_St_blockAt_0 rfl rfl ?_
  refine v_if_lt C 21 d_St_blockAt_1 (by decide) (fun c_1 => ?_) (fun c_1 => ?_)
  · refine v_bipush C (v := (-3)) d_St_blockAt_21 (by decide) ?_
    exact v_iret hQ C rfl d_St_blockAt_23 (by omega) (by omega) ⟨rfl, Or.inl ⟨Or.inl c_1, rfl⟩⟩
  · refine v_iload_n C (i := 1) d_St_blockAt_4 rfl rfl ?_
    refine v_aload_n C (i := 0) d_St_blockAt_5 rfl rfl ?_
    refine v_get C (v := .int (nI (G.N 1))) in_St h.st cl_St 4 (by decide) w_85 rfl rfl d_St_blockAt_6 ?_
    refine v_icmp_ge C 21 d_St_blockAt_9 (by decide) (fun c_9 => ?_) (fun c_9 => ?_)
    · refine v_bipush C (v := (-3)) d_St_blockAt_21 (by decide) ?_
      exact v_iret hQ C rfl d_St_blockAt_23 (by omega) (by omega) ⟨rfl, Or.inl ⟨Or.inr c_9, rfl⟩⟩
    · obtain ⟨j, hj, rfl⟩ : ∃ j : Nat, j < G.N 1 ∧ x = nI j := by
        rcases pk_ix x (n := G.N 1) (by omega) with h | h | h
        · exact absurd h c_1
        · exact absurd h c_9
        · exact h
      refine v_aload_n C (i := 0) d_St_blockAt_12 rfl rfl ?_
      refine v_get C (v := .ref (ad 3)) in_St h.st cl_St 2 (by decide) w_83 rfl rfl d_St_blockAt_13 ?_
      refine v_iload_n C (i := 1) d_St_blockAt_16 rfl rfl ?_
      refine v_iald C (N := G.N 4 + 1) (f := G.T 1) 0 h.cb rfl (pk_in j (G.N 4 + 1) (by omega)) d_St_blockAt_17 ?_
      refine V.eqst (st' := [.int ((G.T 1) j)]) (by rw [show Int32.toNatClampNeg (nI j) = j from pk_cl _ (hx := rfl)]) ?_
      refine v_goto C 23 d_St_blockAt_18 (by decide) ?_
      exact v_iret hQ C rfl d_St_blockAt_23 (by omega) (by omega) ⟨rfl, Or.inr ⟨j, hj, rfl, rfl⟩⟩
set_option maxHeartbeats 4000000 in
set_option maxRecDepth 100000 in
theorem ct_St_writeBackFirst {D : va_G} {l : Launch} {cI cZ cR cM : ClassId} {M : Mem} {ad : Nat → Nat} {G : G1} (h : R1 cI cR cM M ad G) (hc : cOK G) : Ct TT D cls (tyL cI cZ cR cM) l y_St_writeBackFirst b_St_writeBackFirst 3 (some .int) 0 0 0 0 [.ref (ad 1)] M (fun rv M' => (G.N 1 = 0 ∧ rv = some (.int (-3)) ∧ R1 cI cR cM M' ad G.wb) ∨ (0 < G.N 1 ∧ rv = some (.int (G.T 1 0)) ∧ R1 cI cR cM M' ad G.wb)) := by
  refine ct_of "BlockTargetSession$Store" rfl (by decide) (Nat.le_of_ble_eq_true rfl) ?_
  intro Z hl hD hnm hQ C
  subst hl
  subst hD
  show V cls 3 (rmOf 0 0 0 0) Z 0 [(0, .ref (ad 1))] [] M 0 0
  obtain ⟨hr6, hcs, hcb⟩ := hc
  refine v_aload_n C (i := 0) d_St_writeBackFirst_0 rfl rfl ?_
  refine v_get C (v := .int (nI (G.N 1))) in_St h.st cl_St 4 (by decide) w_85 rfl rfl d_St_writeBackFirst_1 ?_
  refine v_if_ne C 10 d_St_writeBackFirst_4 (by decide) (fun c_4 => ?_) (fun c_4 => ?_)
  · obtain ⟨m, hm⟩ : ∃ m, G.N 1 = m + 1 := ⟨G.N 1 - 1, by have : G.N 1 ≠ 0 := fun h => c_4 (by rw [h]; exact nI_0); omega⟩
    obtain ⟨b, hb, eb⟩ := hcb 0 (by omega)
    refine v_aload_n C (i := 0) d_St_writeBackFirst_10 rfl rfl ?_
    refine v_get C (v := .ref (ad 3)) in_St h.st cl_St 2 (by decide) w_83 rfl rfl d_St_writeBackFirst_11 ?_
    refine v_iconst C (v := 0) d_St_writeBackFirst_14 (by decide) ?_
    refine v_iald C (N := G.N 4 + 1) (f := G.T 1) 0 h.cb rfl (pk_in 0 (G.N 4 + 1) (by omega) nI_0.symm) d_St_writeBackFirst_15 ?_
    refine V.eqst (st' := [.int ((G.T 1) 0)]) (by rw [show Int32.toNatClampNeg 0 = 0 from pk_cl _ (hx := nI_0.symm)]) ?_
    refine V.eqst (st' := [.int (nI b)]) (by rw [eb]) ?_
    refine v_istore_n C (i := 1) (lv' := [(1, .int (nI b)), (0, .ref (ad 1))]) d_St_writeBackFirst_16 rfl (by decide) rfl ?_
    refine v_aload_n C (i := 0) d_St_writeBackFirst_17 rfl rfl ?_
    refine v_get C (v := .ref (ad 2)) in_St h.st cl_St 1 (by decide) w_81 rfl rfl d_St_writeBackFirst_18 ?_
    refine v_iload_n C (i := 1) d_St_writeBackFirst_21 rfl rfl ?_
    refine v_aload_n C (i := 0) d_St_writeBackFirst_22 rfl rfl ?_
    refine v_get C (v := .ref (ad 4)) in_St h.st cl_St 3 (by decide) w_84 rfl rfl d_St_writeBackFirst_23 ?_
    refine v_iconst C (v := 0) d_St_writeBackFirst_26 (by decide) ?_
    refine v_iald C (N := G.N 4 + 1) (f := G.T 2) 0 h.cv rfl (pk_in 0 (G.N 4 + 1) (by omega) nI_0.symm) d_St_writeBackFirst_27 ?_
    refine V.eqst (st' := [.int ((G.T 2) 0), .int (nI b), .ref (ad 2)]) (by rw [show Int32.toNatClampNeg 0 = 0 from pk_cl _ (hx := nI_0.symm)]) ?_
    refine v_iast C (N := 16) (f := G.T 0) 0 h.dk rfl (pk_in b 16 hb) d_St_writeBackFirst_28 ?_
    rw [show Int32.toNatClampNeg (nI b) = b from pk_cl _ (hx := rfl)]
    have h : R1 cI cR cM (mset M (ad 2) (aI cI 16 (upd (G.T 0) b ((G.T 2) 0)))) ad (G.sT 0 (upd (G.T 0) b ((G.T 2) 0))) := h.pdk (upd (G.T 0) b ((G.T 2) 0))
    revert h
    generalize mset M (ad 2) (aI cI 16 (upd (G.T 0) b ((G.T 2) 0))) = M
    intro h
    refine v_aload_n C (i := 0) d_St_writeBackFirst_29 rfl rfl ?_
    refine v_dup C d_St_writeBackFirst_30 rfl ?_
    refine v_get C (v := .int (nI (G.N 1))) in_St h.st cl_St 4 (by decide) w_85 rfl rfl d_St_writeBackFirst_31 ?_
    refine v_iconst C (v := 1) d_St_writeBackFirst_34 (by decide) ?_
    refine v_isub C d_St_writeBackFirst_35 ?_
    refine V.eqst (st' := [.int (nI m), .ref (ad 1)]) (by rw [hm, nI_pred]) ?_
    refine v_put C in_St t_St to_St nm_St h.st cl_St 4 (by decide) (fs' := [.int (nI (G.N 4)), .ref (ad 2), .ref (ad 3), .ref (ad 4), .int (nI m)]) w_85 rfl rfl rfl rfl (Nat.le_of_ble_eq_true rfl) rfl d_St_writeBackFirst_36 ?_
    have h : R1 cI cR cM (mset M (ad 1) (ob 3 [.int (nI (G.N 4)), .ref (ad 2), .ref (ad 3), .ref (ad 4), .int (nI m)])) ad ((G.sT 0 (upd (G.T 0) b ((G.T 2) 0))).sN 1 m) := h.pcs m
    revert h
    generalize mset M (ad 1) (ob 3 [.int (nI (G.N 4)), .ref (ad 2), .ref (ad 3), .ref (ad 4), .int (nI m)]) = M
    intro h
    refine v_iconst C (v := 0) d_St_writeBackFirst_39 (by decide) ?_
    refine v_istore_n C (i := 2) (lv' := [(2, .int 0), (1, .int (nI b)), (0, .ref (ad 1))]) d_St_writeBackFirst_40 rfl (by decide) rfl ?_
    have hGa : ∃ Ga, Ga = ((G.sT 0 (upd (G.T 0) b ((G.T 2) 0))).sN 1 m) := ⟨_, rfl⟩
    obtain ⟨Ga, hGa⟩ := hGa
    rw [← hGa] at h
    have hGN : Ga.N 1 = m := by rw [hGa]; rfl
    have hG4 : Ga.N 4 = G.N 4 := by rw [hGa]; rfl
    have hG1 : Ga.T 1 = G.T 1 := by rw [hGa]; rfl
    have hG2 : Ga.T 2 = G.T 2 := by rw [hGa]; rfl
    have L : ∀ (fu i : Nat) (M : Mem), m - i < fu → i ≤ m → R1 cI cR cM M ad ((Ga.sT 1 (shf (G.T 1) i)).sT 2 (shf (G.T 2) i)) → V cls 3 (rmOf 0 0 0 0) Z 41 [(2, .int (nI i)), (1, .int (nI b)), (0, .ref (ad 1))] [] M 0 0 := by
      intro fu
      induction fu with
      | zero => intro i M hf; omega
      | succ fu ih =>
        intro i M hf hi h
        refine v_iload_n C (i := 2) d_St_writeBackFirst_41 rfl rfl ?_
        refine v_aload_n C (i := 0) d_St_writeBackFirst_42 rfl rfl ?_
        refine v_get C (v := .int (nI (Ga.N 1))) in_St h.st cl_St 4 (by decide) w_85 rfl rfl d_St_writeBackFirst_43 ?_
        refine v_icmp_ge C 83 d_St_writeBackFirst_46 (by decide) (fun c_46 => ?_) (fun c_46 => ?_)
        · have hi2 : i = m := Nat.le_antisymm hi ((nI_leI (by omega) (by omega)).mp (by rw [hGN] at c_46; exact c_46))
          refine v_iload_n C (i := 1) d_St_writeBackFirst_83 rfl rfl ?_
          exact v_iret hQ C rfl d_St_writeBackFirst_84 (by omega) (by omega) (Or.inr ⟨by omega, by rw [eb], by
            subst hi2
            rw [G1.wb, if_neg (by omega), show G.N 1 - 1 = i from by omega, eb, pk_cl b, ← hGa]
            exact h⟩)
        · have hi2 : i < m := Nat.lt_of_not_le (fun h => c_46 (by rw [hGN]; exact (nI_leI (by omega) (by omega)).mpr h))
          refine v_aload_n C (i := 0) d_St_writeBackFirst_49 rfl rfl ?_
          refine v_get C (v := .ref (ad 3)) in_St h.st cl_St 2 (by decide) w_83 rfl rfl d_St_writeBackFirst_50 ?_
          refine v_iload_n C (i := 2) d_St_writeBackFirst_53 rfl rfl ?_
          refine v_aload_n C (i := 0) d_St_writeBackFirst_54 rfl rfl ?_
          refine v_get C (v := .ref (ad 3)) in_St h.st cl_St 2 (by decide) w_83 rfl rfl d_St_writeBackFirst_55 ?_
          refine v_iload_n C (i := 2) d_St_writeBackFirst_58 rfl rfl ?_
          refine v_iconst C (v := 1) d_St_writeBackFirst_59 (by decide) ?_
          refine v_iadd C d_St_writeBackFirst_60 ?_
          refine V.eqst (st' := [.int (nI (i + 1)), .ref (ad 3), .int (nI i), .ref (ad 3)]) (by rw [nI_1]) ?_
          refine v_iald C (N := Ga.N 4 + 1) (f := shf (G.T 1) i) 0 h.cb rfl (pk_in (i + 1) (Ga.N 4 + 1) (by omega)) d_St_writeBackFirst_61 ?_
          refine V.eqst (st' := [.int ((shf (G.T 1) i) (i + 1)), .int (nI i), .ref (ad 3)]) (by rw [show Int32.toNatClampNeg (nI (i + 1)) = i + 1 from pk_cl _ (hx := rfl)]) ?_
          refine v_iast C (N := Ga.N 4 + 1) (f := shf (G.T 1) i) 0 h.cb rfl (pk_in i (Ga.N 4 + 1) (by omega)) d_St_writeBackFirst_62 ?_
          rw [show Int32.toNatClampNeg (nI i) = i from pk_cl _ (hx := rfl)]
          have h : R1 cI cR cM (mset M (ad 3) (aI cI (Ga.N 4 + 1) (upd (shf (G.T 1) i) i ((shf (G.T 1) i) (i + 1))))) ad (((Ga.sT 1 (shf (G.T 1) i)).sT 2 (shf (G.T 2) i)).sT 1 (upd (shf (G.T 1) i) i ((shf (G.T 1) i) (i + 1)))) := h.pcb (upd (shf (G.T 1) i) i ((shf (G.T 1) i) (i + 1)))
          revert h
          generalize mset M (ad 3) (aI cI (Ga.N 4 + 1) (upd (shf (G.T 1) i) i ((shf (G.T 1) i) (i + 1)))) = M
          intro h
          rw [shf_s, G1.sT_swap] at h
          refine v_aload_n C (i := 0) d_St_writeBackFirst_63 rfl rfl ?_
          refine v_get C (v := .ref (ad 4)) in_St h.st cl_St 3 (by decide) w_84 rfl rfl d_St_writeBackFirst_64 ?_
          refine v_iload_n C (i := 2) d_St_writeBackFirst_67 rfl rfl ?_
          refine v_aload_n C (i := 0) d_St_writeBackFirst_68 rfl rfl ?_
          refine v_get C (v := .ref (ad 4)) in_St h.st cl_St 3 (by decide) w_84 rfl rfl d_St_writeBackFirst_69 ?_
          refine v_iload_n C (i := 2) d_St_writeBackFirst_72 rfl rfl ?_
          refine v_iconst C (v := 1) d_St_writeBackFirst_73 (by decide) ?_
          refine v_iadd C d_St_writeBackFirst_74 ?_
          refine V.eqst (st' := [.int (nI (i + 1)), .ref (ad 4), .int (nI i), .ref (ad 4)]) (by rw [nI_1]) ?_
          refine v_iald C (N := Ga.N 4 + 1) (f := shf (G.T 2) i) 0 h.cv rfl (pk_in (i + 1) (Ga.N 4 + 1) (by omega)) d_St_writeBackFirst_75 ?_
          refine V.eqst (st' := [.int ((shf (G.T 2) i) (i + 1)), .int (nI i), .ref (ad 4)]) (by rw [show Int32.toNatClampNeg (nI (i + 1)) = i + 1 from pk_cl _ (hx := rfl)]) ?_
          refine v_iast C (N := Ga.N 4 + 1) (f := shf (G.T 2) i) 0 h.cv rfl (pk_in i (Ga.N 4 + 1) (by omega)) d_St_writeBackFirst_76 ?_
          rw [show Int32.toNatClampNeg (nI i) = i from pk_cl _ (hx := rfl)]
          have h : R1 cI cR cM (mset M (ad 4) (aI cI (Ga.N 4 + 1) (upd (shf (G.T 2) i) i ((shf (G.T 2) i) (i + 1))))) ad (((Ga.sT 1 (shf (G.T 1) (i + 1))).sT 2 (shf (G.T 2) i)).sT 2 (upd (shf (G.T 2) i) i ((shf (G.T 2) i) (i + 1)))) := h.pcv (upd (shf (G.T 2) i) i ((shf (G.T 2) i) (i + 1)))
          revert h
          generalize mset M (ad 4) (aI cI (Ga.N 4 + 1) (upd (shf (G.T 2) i) i ((shf (G.T 2) i) (i + 1)))) = M
          intro h
          rw [shf_s, G1.sT_same] at h
          refine v_iinc C (i := 2) (j := 0) (v := nI (i + 1)) (lv' := [(2, .int (nI (i + 1))), (1, .int (nI b)), (0, .ref (ad 1))]) d_St_writeBackFirst_77 rfl (nI_1 i) (by decide) rfl ?_
          refine v_goto C 41 d_St_writeBackFirst_80 (by decide) ?_
          refine V.pick (lv' := [(2, .int (nI (i + 1))), (1, .int (nI b)), (0, .ref (ad 1))]) [0, 1, 2] rfl ?_
          exact ih (i + 1) M (by omega) (by omega) h
    refine V.pick (lv' := [(2, .int (nI 0)), (1, .int (nI b)), (0, .ref (ad 1))]) [0, 1, 2] (by rw [nI_0]; rfl) ?_
    refine L (m + 1) 0 M (by omega) (by omega) ?_
    rw [shf_0, shf_0, ← hG1, G1.sT_id, ← hG2, G1.sT_id]
    exact h
  · have hz0 : G.N 1 = 0 := Classical.byContradiction fun h => nI_ne0 (Nat.pos_of_ne_zero h) (by omega) c_4
    refine v_bipush C (v := (-3)) d_St_writeBackFirst_7 (by decide) ?_
    exact v_iret hQ C rfl d_St_writeBackFirst_9 (by omega) (by omega) (Or.inl ⟨hz0, rfl, by rw [G1.wb, if_pos hz0]; exact h⟩)
