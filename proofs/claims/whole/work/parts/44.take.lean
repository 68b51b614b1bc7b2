set_option maxHeartbeats 4000000 in
set_option maxRecDepth 100000 in
theorem ct_Bs_workAtTarget {D : va_G} {l : Launch} {cI cZ cR cM : ClassId} {M : Mem} {ad : Nat → Nat} {G : G1} (h : R1 cI cR cM M ad G) (hn : G.N 0 ≤ 120) (hc : cOK G) (hcr : G.N 1 ≤ G.N 4) (hcap : G.N 3 ≤ 12) (j : Nat) (hj : j < 4) (q : Nat) (hq : G.T 10 j = nI q) (hqn : q < G.N 0) (hr : rOK G q) : Ct TT D cls (tyL cI cZ cR cM) l y_Bs_workAtTarget b_Bs_workAtTarget 3 none 4 95 0 0 [.ref (ad 0), .ref (ad (10 + j))] M (fun rv M' => rv = none ∧ R1 cI cR cM M' ad (G.wk q (if G.T 11 j = 1 then G.T 12 j else 0))) := by
  refine ct_of "BlockTargetSession" rfl (by decide) (Nat.le_of_ble_eq_true rfl) ?_
  intro Z hl hD hnm hQ C
  subst hl
  subst hD
  show V cls 3 (rmOf 4 95 0 0) Z 0 [(0, .ref (ad 0)), (1, .ref (ad (10 + j)))] [] M 0 0
  have hms : M (ad (10 + j)) = some (ob 1 [.int (nI q), .int (G.T 11 j), .int (G.T 12 j), .int (G.T 13 j), .int (G.T 14 j), .int (G.T 15 j)]) := by
    have z := h.ms 0 j (by decide) hj
    rw [← hq]
    exact z
  refine v_aload_n C (i := 0) d_Bs_workAtTarget_0 rfl rfl ?_
  refine v_aload_n C (i := 1) d_Bs_workAtTarget_1 rfl rfl ?_
  refine v_get C (v := .int (nI q)) in_Ms hms cl_Ms 0 (by decide) w_33 rfl rfl d_Bs_workAtTarget_2 ?_
  refine v_callV C (As := [.int (nI q)]) (rest := []) h.o cl_Bs rfl w_242 wp_7 (ct_Bs_requestAt h hn (nI q)) (Nat.le_of_ble_eq_true rfl) (Nat.le_of_ble_eq_true rfl) w_243 w_1 hy_Bs_requestAt w_240 rfl (Nat.le_of_ble_eq_true rfl) ⟨by decide, by decide⟩ d_Bs_workAtTarget_5 (fun rv M hp => ?_)
  have hN9 : G.N 0 = G.N 0 := rfl
  obtain ⟨rfl, hp⟩ := hp
  obtain rfl : rv = some (.ref (ad (30 + 2 * q))) := by
    rcases hp with ⟨z | z, _⟩ | ⟨j2, hj2, e2, e3⟩
    · exact absurd z (nI_pos (by omega))
    · exact absurd z (nI_ge hqn (by omega))
    · rw [e3, (nI_eq (by omega) (by omega)).mp e2]
  refine V.eqst (st' := [.ref (ad (30 + 2 * q))]) rfl (V.cs (k' := 0) (n' := 0) rfl rfl ?_)
  refine v_astore_n C (i := 2) (lv' := [(2, .ref (ad (30 + 2 * q))), (0, .ref (ad 0)), (1, .ref (ad (10 + j)))]) d_Bs_workAtTarget_8 rfl (by decide) rfl ?_
  refine v_aload_n C (i := 2) d_Bs_workAtTarget_9 rfl rfl ?_
  refine v_ifnonnull C 14 d_Bs_workAtTarget_10 (by decide) ?_
  refine v_aload_n C (i := 2) d_Bs_workAtTarget_14 rfl rfl ?_
  refine v_get C (v := .int ((G.T 3) q)) in_Rq (h.rq q hqn) cl_Rq 0 (by decide) w_157 rfl rfl d_Bs_workAtTarget_15 ?_
  refine v_if_ne C 49 d_Bs_workAtTarget_18 (by decide) (fun c_18 => ?_) (fun c_18 => ?_)
  · refine v_aload_n C (i := 2) d_Bs_workAtTarget_49 rfl rfl ?_
    refine v_get C (v := .int ((G.T 3) q)) in_Rq (h.rq q hqn) cl_Rq 0 (by decide) w_157 rfl rfl d_Bs_workAtTarget_50 ?_
    refine v_iconst C (v := 1) d_Bs_workAtTarget_53 (by decide) ?_
    refine v_icmp_ne C 69 d_Bs_workAtTarget_54 (by decide) (fun c_54 => ?_) (fun c_54 => ?_)
    · refine v_aload_n C (i := 0) d_Bs_workAtTarget_69 rfl rfl ?_
      refine v_aload_n C (i := 1) d_Bs_workAtTarget_70 rfl rfl ?_
      refine v_get C (v := .int (nI q)) in_Ms hms cl_Ms 0 (by decide) w_33 rfl rfl d_Bs_workAtTarget_71 ?_
      refine v_callV C (As := [.int (nI q)]) (rest := []) h.o cl_Bs rfl w_278 wp_13 (ct_Bs_workSync h hc (by omega) (nI q)) (Nat.le_of_ble_eq_true rfl) (Nat.le_of_ble_eq_true rfl) w_279 w_1 hy_Bs_workSync w_276 rfl (Nat.le_of_ble_eq_true rfl) ⟨by decide, by decide⟩ d_Bs_workAtTarget_74 (fun rv M hp => ?_)
      obtain ⟨rfl, hw⟩ := hp
      refine V.eqst (st' := []) rfl (V.cs (k' := 0) (n' := 0) rfl rfl ?_)
      exact v_vret hQ C rfl d_Bs_workAtTarget_77 (by omega) (by omega) ⟨rfl, by rw [G1.wk, if_neg c_18, if_neg c_54]; exact hw⟩
    · refine v_aload_n C (i := 0) d_Bs_workAtTarget_57 rfl rfl ?_
      refine v_aload_n C (i := 1) d_Bs_workAtTarget_58 rfl rfl ?_
      refine v_get C (v := .int (nI q)) in_Ms hms cl_Ms 0 (by decide) w_33 rfl rfl d_Bs_workAtTarget_59 ?_
      refine v_aload_n C (i := 2) d_Bs_workAtTarget_62 rfl rfl ?_
      refine v_callV C (As := [.int (nI q), .ref (ad (30 + 2 * q))]) (rest := []) h.o cl_Bs rfl w_270 wp_12 (ct_Bs_workRead h hn hc q hqn hr (by have := hr.f.2.2.2; omega)) (Nat.le_of_ble_eq_true rfl) (Nat.le_of_ble_eq_true rfl) w_271 w_1 hy_Bs_workRead w_268 rfl (Nat.le_of_ble_eq_true rfl) ⟨by decide, by decide⟩ d_Bs_workAtTarget_63 (fun rv M hp => ?_)
      obtain ⟨rfl, hw⟩ := hp
      refine V.eqst (st' := []) rfl (V.cs (k' := 0) (n' := 0) rfl rfl ?_)
      refine v_goto C 77 d_Bs_workAtTarget_66 (by decide) ?_
      exact v_vret hQ C rfl d_Bs_workAtTarget_77 (by omega) (by omega) ⟨rfl, by rw [G1.wk, if_neg c_18, if_pos c_54]; exact hw⟩
  · refine v_aload_n C (i := 0) d_Bs_workAtTarget_21 rfl rfl ?_
    refine v_aload_n C (i := 1) d_Bs_workAtTarget_22 rfl rfl ?_
    refine v_get C (v := .int (nI q)) in_Ms hms cl_Ms 0 (by decide) w_33 rfl rfl d_Bs_workAtTarget_23 ?_
    refine v_aload_n C (i := 2) d_Bs_workAtTarget_26 rfl rfl ?_
    refine v_aload_n C (i := 1) d_Bs_workAtTarget_27 rfl rfl ?_
    refine v_get C (v := .int (G.T 11 j)) in_Ms hms cl_Ms 1 (by decide) w_35 rfl rfl d_Bs_workAtTarget_28 ?_
    refine v_iconst C (v := 1) d_Bs_workAtTarget_31 (by decide) ?_
    refine v_icmp_ne C 42 d_Bs_workAtTarget_32 (by decide) (fun c_32 => ?_) (fun c_32 => ?_)
    · refine v_iconst C (v := 0) d_Bs_workAtTarget_42 (by decide) ?_
      refine v_callV C (As := [.int (nI q), .ref (ad (30 + 2 * q)), .int 0]) (rest := []) h.o cl_Bs rfl w_246 wp_8 (ct_Bs_workPartOfWrite h hn hc q hqn hr hcr (by omega) 0) (Nat.le_of_ble_eq_true rfl) (Nat.le_of_ble_eq_true rfl) w_247 w_1 hy_Bs_workPartOfWrite w_244 rfl (Nat.le_of_ble_eq_true rfl) ⟨by decide, by decide⟩ d_Bs_workAtTarget_43 (fun rv M hp => ?_)
      obtain ⟨rfl, hw⟩ := hp
      refine V.eqst (st' := []) rfl (V.cs (k' := 0) (n' := 0) rfl rfl ?_)
      refine v_goto C 77 d_Bs_workAtTarget_46 (by decide) ?_
      exact v_vret hQ C rfl d_Bs_workAtTarget_77 (by omega) (by omega) ⟨rfl, by rw [G1.wk, if_pos c_18, if_neg c_32]; exact hw⟩
    · refine v_aload_n C (i := 1) d_Bs_workAtTarget_35 rfl rfl ?_
      refine v_get C (v := .int (G.T 12 j)) in_Ms hms cl_Ms 2 (by decide) w_37 rfl rfl d_Bs_workAtTarget_36 ?_
      refine v_goto C 43 d_Bs_workAtTarget_39 (by decide) ?_
      refine v_callV C (As := [.int (nI q), .ref (ad (30 + 2 * q)), .int (G.T 12 j)]) (rest := []) h.o cl_Bs rfl w_246 wp_8 (ct_Bs_workPartOfWrite h hn hc q hqn hr hcr (by omega) (G.T 12 j)) (Nat.le_of_ble_eq_true rfl) (Nat.le_of_ble_eq_true rfl) w_247 w_1 hy_Bs_workPartOfWrite w_244 rfl (Nat.le_of_ble_eq_true rfl) ⟨by decide, by decide⟩ d_Bs_workAtTarget_43 (fun rv M hp => ?_)
      obtain ⟨rfl, hw⟩ := hp
      refine V.eqst (st' := []) rfl (V.cs (k' := 0) (n' := 0) rfl rfl ?_)
      refine v_goto C 77 d_Bs_workAtTarget_46 (by decide) ?_
      exact v_vret hQ C rfl d_Bs_workAtTarget_77 (by omega) (by omega) ⟨rfl, by rw [G1.wk, if_pos c_18, if_pos c_32]; exact hw⟩
set_option maxHeartbeats 4000000 in
set_option maxRecDepth 100000 in
theorem ct_Bs_takeAtInitiator {D : va_G} {l : Launch} {cI cZ cR cM : ClassId} {M : Mem} {ad : Nat → Nat} {G : G1} (h : R1 cI cR cM M ad G) (hn : G.N 0 ≤ 120) (hrl : ∀ j, j < G.N 0 → rlen G j ≤ 200) (j : Nat) (hj : j < 16) (q : Nat) (hq : G.T 20 j = nI q) (hqn : q < G.N 0) (hcap : G.T 21 j = 2 → G.N 2 < 4) (hpc : G.T 21 j = 3 → ∃ k, G.T 22 j = nI k ∧ k < rlen G q) : Ct TT D cls (tyL cI cZ cR cM) l y_Bs_takeAtInitiator b_Bs_takeAtInitiator 3 none 2 49 0 0 [.ref (ad 0), .ref (ad (14 + j))] M (fun rv M' => rv = none ∧ R1 cI cR cM M' ad (G.tki q (G.T 21 j) (G.T 22 j) (G.T 23 j) (G.T 24 j))) := by
  refine ct_of "BlockTargetSession" rfl (by decide) (Nat.le_of_ble_eq_true rfl) ?_
  intro Z hl hD hnm hQ C
  subst hl
  subst hD
  show V cls 3 (rmOf 2 49 0 0) Z 0 [(0, .ref (ad 0)), (1, .ref (ad (14 + j)))] [] M 0 0
  have hms : M (ad (14 + j)) = some (ob 1 [.int (nI q), .int (G.T 21 j), .int (G.T 22 j), .int (G.T 23 j), .int (G.T 24 j), .int (G.T 25 j)]) := by
    have z := h.ms 1 j (by decide) hj
    rw [← hq]
    exact z
  refine v_aload_n C (i := 0) d_Bs_takeAtInitiator_0 rfl rfl ?_
  refine v_aload_n C (i := 0) d_Bs_takeAtInitiator_1 rfl rfl ?_
  refine v_get C (v := .int (G.I 5)) in_Bs h.o cl_Bs 10 (by decide) w_113 rfl rfl d_Bs_takeAtInitiator_2 ?_
  refine v_aload_n C (i := 1) d_Bs_takeAtInitiator_5 rfl rfl ?_
  refine v_get C (v := .int (G.T 24 j)) in_Ms hms cl_Ms 4 (by decide) w_41 rfl rfl d_Bs_takeAtInitiator_6 ?_
  refine v_mmax C w_71 w_72 w_4 w_73 (by decide) (Nat.le_of_ble_eq_true rfl) (by decide) (by decide) d_Bs_takeAtInitiator_9 ?_
  refine v_put C in_Bs t_Bs to_Bs nm_Bs h.o cl_Bs 10 (by decide) (fs' := [.int (G.I 0), .ref (ad 1), .ref (ad 5), .int (nI (G.N 0)), .ref (ad 6), .ref (ad 8), .int (G.I 1), .int (G.I 2), .int (G.I 3), .int (G.I 4), .int (if G.I 5 < G.T 24 j then G.T 24 j else G.I 5)]) w_113 rfl rfl rfl rfl (Nat.le_of_ble_eq_true rfl) rfl d_Bs_takeAtInitiator_12 ?_
  have h : R1 cI cR cM (mset M (ad 0) (ob 4 [.int (G.I 0), .ref (ad 1), .ref (ad 5), .int (nI (G.N 0)), .ref (ad 6), .ref (ad 8), .int (G.I 1), .int (G.I 2), .int (G.I 3), .int (G.I 4), .int (if G.I 5 < G.T 24 j then G.T 24 j else G.I 5)])) ad (G.sI 5 (if G.I 5 < G.T 24 j then G.T 24 j else G.I 5)) := h.po 5 (if G.I 5 < G.T 24 j then G.T 24 j else G.I 5)
  revert h
  generalize mset M (ad 0) (ob 4 [.int (G.I 0), .ref (ad 1), .ref (ad 5), .int (nI (G.N 0)), .ref (ad 6), .ref (ad 8), .int (G.I 1), .int (G.I 2), .int (G.I 3), .int (G.I 4), .int (if G.I 5 < G.T 24 j then G.T 24 j else G.I 5)]) = M
  intro h
  have hms : M (ad (14 + j)) = some (ob 1 [.int (nI q), .int (G.T 21 j), .int (G.T 22 j), .int (G.T 23 j), .int (G.T 24 j), .int (G.T 25 j)]) := by
    have z := h.ms 1 j (by decide) hj
    rw [← hq]
    exact z
  refine v_aload_n C (i := 0) d_Bs_takeAtInitiator_15 rfl rfl ?_
  refine v_aload_n C (i := 1) d_Bs_takeAtInitiator_16 rfl rfl ?_
  refine v_get C (v := .int (nI q)) in_Ms hms cl_Ms 0 (by decide) w_33 rfl rfl d_Bs_takeAtInitiator_17 ?_
  refine v_callV C (As := [.int (nI q)]) (rest := []) h.o cl_Bs rfl w_242 wp_7 (ct_Bs_requestAt h hn (nI q)) (Nat.le_of_ble_eq_true rfl) (Nat.le_of_ble_eq_true rfl) w_243 w_1 hy_Bs_requestAt w_240 rfl (Nat.le_of_ble_eq_true rfl) ⟨by decide, by decide⟩ d_Bs_takeAtInitiator_20 (fun rv M hp => ?_)
  have hN9 : (G.sI 5 (if G.I 5 < G.T 24 j then G.T 24 j else G.I 5)).N 0 = G.N 0 := rfl
  obtain ⟨rfl, hp⟩ := hp
  obtain rfl : rv = some (.ref (ad (30 + 2 * q))) := by
    rcases hp with ⟨z | z, _⟩ | ⟨j2, hj2, e2, e3⟩
    · exact absurd z (nI_pos (by omega))
    · exact absurd z (nI_ge hqn (by omega))
    · rw [e3, (nI_eq (by omega) (by omega)).mp e2]
  refine V.eqst (st' := [.ref (ad (30 + 2 * q))]) rfl (V.cs (k' := 0) (n' := 0) rfl rfl ?_)
  refine v_astore_n C (i := 2) (lv' := [(2, .ref (ad (30 + 2 * q))), (0, .ref (ad 0)), (1, .ref (ad (14 + j)))]) d_Bs_takeAtInitiator_23 rfl (by decide) rfl ?_
  refine v_aload_n C (i := 2) d_Bs_takeAtInitiator_24 rfl rfl ?_
  refine v_ifnonnull C 29 d_Bs_takeAtInitiator_25 (by decide) ?_
  refine v_aload_n C (i := 1) d_Bs_takeAtInitiator_29 rfl rfl ?_
  refine v_get C (v := .int (G.T 21 j)) in_Ms hms cl_Ms 1 (by decide) w_35 rfl rfl d_Bs_takeAtInitiator_30 ?_
  refine v_iconst C (v := 2) d_Bs_takeAtInitiator_33 (by decide) ?_
  refine v_icmp_ne C 53 d_Bs_takeAtInitiator_34 (by decide) (fun c_34 => ?_) (fun c_34 => ?_)
  · refine v_aload_n C (i := 1) d_Bs_takeAtInitiator_53 rfl rfl ?_
    refine v_get C (v := .int (G.T 21 j)) in_Ms hms cl_Ms 1 (by decide) w_35 rfl rfl d_Bs_takeAtInitiator_54 ?_
    refine v_iconst C (v := 3) d_Bs_takeAtInitiator_57 (by decide) ?_
    refine v_icmp_ne C 76 d_Bs_takeAtInitiator_58 (by decide) (fun c_58 => ?_) (fun c_58 => ?_)
    · refine v_aload_n C (i := 2) d_Bs_takeAtInitiator_76 rfl rfl ?_
      refine v_iconst C (v := 2) d_Bs_takeAtInitiator_77 (by decide) ?_
      refine v_put C in_Rq t_Rq to_Rq nm_Rq (h.rq q hqn) cl_Rq 5 (by decide) (fs' := [.int ((G.T 3) q), .int ((G.T 4) q), .int ((G.T 5) q), .int ((G.T 6) q), .ref (ad (31 + 2 * q)), .int 2]) w_167 rfl rfl rfl rfl (Nat.le_of_ble_eq_true rfl) rfl d_Bs_takeAtInitiator_78 ?_
      have h : R1 cI cR cM (mset M (ad (30 + 2 * q)) (ob 2 [.int ((G.T 3) q), .int ((G.T 4) q), .int ((G.T 5) q), .int ((G.T 6) q), .ref (ad (31 + 2 * q)), .int 2])) ad ((G.sI 5 (if G.I 5 < G.T 24 j then G.T 24 j else G.I 5)).sT 7 (upd (G.T 7) q 2)) := h.preq q hqn 2
      revert h
      generalize mset M (ad (30 + 2 * q)) (ob 2 [.int ((G.T 3) q), .int ((G.T 4) q), .int ((G.T 5) q), .int ((G.T 6) q), .ref (ad (31 + 2 * q)), .int 2]) = M
      intro h
      have hms : M (ad (14 + j)) = some (ob 1 [.int (nI q), .int (G.T 21 j), .int (G.T 22 j), .int (G.T 23 j), .int (G.T 24 j), .int (G.T 25 j)]) := by
        have z := h.ms 1 j (by decide) hj
        rw [← hq]
        exact z
      exact v_vret hQ C rfl d_Bs_takeAtInitiator_81 (by omega) (by omega) ⟨rfl, by simp only [G1.tki]; rw [if_neg c_34, if_neg c_58]; exact h⟩
    · obtain ⟨k, ek, hk⟩ := hpc c_58
      have hk9 := hrl q hqn
      refine v_aload_n C (i := 2) d_Bs_takeAtInitiator_61 rfl rfl ?_
      refine v_aload_n C (i := 1) d_Bs_takeAtInitiator_62 rfl rfl ?_
      refine v_get C (v := .int (G.T 22 j)) in_Ms hms cl_Ms 2 (by decide) w_37 rfl rfl d_Bs_takeAtInitiator_63 ?_
      refine V.eqst (st' := [.int (nI k), .ref (ad (30 + 2 * q))]) (by rw [ek]) ?_
      refine v_aload_n C (i := 1) d_Bs_takeAtInitiator_66 rfl rfl ?_
      refine v_get C (v := .int (G.T 23 j)) in_Ms hms cl_Ms 3 (by decide) w_39 rfl rfl d_Bs_takeAtInitiator_67 ?_
      refine v_callV C (As := [.int (nI k), .int (G.T 23 j)]) (rest := []) (h.rq q hqn) cl_Rq rfl w_289 w_290 (ct_Rq_keepResult (N := rlen G q) (f := G.R q) (h.rq q hqn) (h.rr q hqn) (hrl q hqn) k hk (G.T 23 j)) (Nat.le_of_ble_eq_true rfl) (Nat.le_of_ble_eq_true rfl) w_291 w_7 hy_Rq_keepResult w_288 rfl (Nat.le_of_ble_eq_true rfl) ⟨by decide, by decide⟩ d_Bs_takeAtInitiator_70 (fun rv M hp => ?_)
      obtain ⟨rfl, rfl⟩ := hp
      have h : R1 cI cR cM (mset M (ad (31 + 2 * q)) (aI cI (rlen G q) (upd (G.R q) k (G.T 23 j)))) ad ((G.sI 5 (if G.I 5 < G.T 24 j then G.T 24 j else G.I 5)).sR q (upd (G.R q) k (G.T 23 j))) := h.prr q hqn (upd (G.R q) k (G.T 23 j))
      revert h
      generalize mset M (ad (31 + 2 * q)) (aI cI (rlen G q) (upd (G.R q) k (G.T 23 j))) = M
      intro h
      refine V.eqst (st' := []) rfl (V.cs (k' := 0) (n' := 0) rfl rfl ?_)
      refine v_goto C 81 d_Bs_takeAtInitiator_73 (by decide) ?_
      exact v_vret hQ C rfl d_Bs_takeAtInitiator_81 (by omega) (by omega) ⟨rfl, by simp only [G1.tki]; rw [if_neg c_34, if_pos c_58, ek, pk_cl k]; exact h⟩
  · refine v_aload_n C (i := 0) d_Bs_takeAtInitiator_37 rfl rfl ?_
    refine v_aload_n C (i := 1) d_Bs_takeAtInitiator_38 rfl rfl ?_
    refine v_get C (v := .int (nI q)) in_Ms hms cl_Ms 0 (by decide) w_33 rfl rfl d_Bs_takeAtInitiator_39 ?_
    refine v_iconst C (v := 1) d_Bs_takeAtInitiator_42 (by decide) ?_
    refine v_aload_n C (i := 1) d_Bs_takeAtInitiator_43 rfl rfl ?_
    refine v_get C (v := .int (G.T 22 j)) in_Ms hms cl_Ms 2 (by decide) w_37 rfl rfl d_Bs_takeAtInitiator_44 ?_
    refine v_callV C (As := [.int (nI q), .int 1, .int (G.T 22 j)]) (rest := []) h.o cl_Bs rfl w_199 wp_3 (ct_Bs_sendUp h (hcap c_34) (nI q) 1 (G.T 22 j)) (Nat.le_of_ble_eq_true rfl) (Nat.le_of_ble_eq_true rfl) w_200 w_1 hy_Bs_sendUp w_197 rfl (Nat.le_of_ble_eq_true rfl) ⟨by decide, by decide⟩ d_Bs_takeAtInitiator_47 (fun rv M hp => ?_)
    obtain ⟨rfl, hw⟩ := hp
    refine V.eqst (st' := []) rfl (V.cs (k' := 0) (n' := 0) rfl rfl ?_)
    refine v_goto C 81 d_Bs_takeAtInitiator_50 (by decide) ?_
    exact v_vret hQ C rfl d_Bs_takeAtInitiator_81 (by omega) (by omega) ⟨rfl, by simp only [G1.tki]; rw [if_pos c_34]; exact hw⟩
