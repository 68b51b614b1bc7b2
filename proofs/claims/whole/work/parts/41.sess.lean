set_option maxHeartbeats 4000000 in
set_option maxRecDepth 100000 in
theorem ct_Bs_lineOf {D : va_G} {l : Launch} {cI cZ cR cM : ClassId} {M : Mem} {ad : Nat → Nat} {G : G1} (h : R1 cI cR cM M ad G) (u : Int32) : Ct TT D cls (tyL cI cZ cR cM) l y_Bs_lineOf b_Bs_lineOf 2 (some (.object "BlockTargetSession$Line")) 0 0 0 0 [.ref (ad 0), .int u] M (fun rv M' => M' = M ∧ rv = some (.ref (ad (6 + 2 * lx u)))) := by
  refine ct_of "BlockTargetSession" rfl (by decide) (Nat.le_of_ble_eq_true rfl) ?_
  intro Z hl hD hnm hQ C
  subst hl
  subst hD
  show V cls 2 (rmOf 0 0 0 0) Z 0 [(0, .ref (ad 0)), (1, .int u)] [] M 0 0
  refine v_iload_n C (i := 1) d_Bs_lineOf_0 rfl rfl ?_
  refine v_if_eq C 11 d_Bs_lineOf_1 (by decide) (fun c_1 => ?_) (fun c_1 => ?_)
  · refine v_aload_n C (i := 0) d_Bs_lineOf_11 rfl rfl ?_
    refine v_get C (v := .ref (ad 8)) in_Bs h.o cl_Bs 5 (by decide) w_108 rfl rfl d_Bs_lineOf_12 ?_
    exact v_aret hQ C rfl (Or.inr ⟨_, rfl⟩) d_Bs_lineOf_15 (by omega) (by omega) ⟨rfl, by simp only [lx]; rw [if_pos c_1]⟩
  · refine v_aload_n C (i := 0) d_Bs_lineOf_4 rfl rfl ?_
    refine v_get C (v := .ref (ad 6)) in_Bs h.o cl_Bs 4 (by decide) w_107 rfl rfl d_Bs_lineOf_5 ?_
    refine v_goto C 15 d_Bs_lineOf_8 (by decide) ?_
    exact v_aret hQ C rfl (Or.inr ⟨_, rfl⟩) d_Bs_lineOf_15 (by omega) (by omega) ⟨rfl, by simp only [lx]; rw [if_neg c_1]⟩
set_option maxHeartbeats 4000000 in
set_option maxRecDepth 100000 in
theorem ct_Bs_requestAt {D : va_G} {l : Launch} {cI cZ cR cM : ClassId} {M : Mem} {ad : Nat → Nat} {G : G1} (h : R1 cI cR cM M ad G) (hn : G.N 0 ≤ 120) (x : Int32) : Ct TT D cls (tyL cI cZ cR cM) l y_Bs_requestAt b_Bs_requestAt 2 (some (.object "BlockTargetSession$Request")) 0 0 0 0 [.ref (ad 0), .int x] M (fun rv M' => M' = M ∧ (((x < 0 ∨ nI (G.N 0) ≤ x) ∧ rv = some .null) ∨ ∃ j, j < G.N 0 ∧ x = nI j ∧ rv = some (.ref (ad (30 + 2 * j))))) := by
  refine ct_of "BlockTargetSession" rfl (by decide) (Nat.le_of_ble_eq_true rfl) ?_
  intro Z hl hD hnm hQ C
  subst hl
  subst hD
  show V cls 2 (rmOf 0 0 0 0) Z 0 [(0, .ref (ad 0)), (1, .int x)] [] M 0 0
  refine v_iload_n C (i := 1) d_Bs_requestAt_0 rfl rfl ?_
  refine v_if_lt C 21 d_Bs_requestAt_1 (by decide) (fun c_1 => ?_) (fun c_1 => ?_)
  · refine v_null C d_Bs_requestAt_21 ?_
    exact v_aret hQ C rfl (Or.inl rfl) d_Bs_requestAt_22 (by omega) (by omega) ⟨rfl, Or.inl ⟨Or.inl c_1, rfl⟩⟩
  · refine v_iload_n C (i := 1) d_Bs_requestAt_4 rfl rfl ?_
    refine v_aload_n C (i := 0) d_Bs_requestAt_5 rfl rfl ?_
    refine v_get C (v := .int (nI (G.N 0))) in_Bs h.o cl_Bs 3 (by decide) w_106 rfl rfl d_Bs_requestAt_6 ?_
    refine v_icmp_ge C 21 d_Bs_requestAt_9 (by decide) (fun c_9 => ?_) (fun c_9 => ?_)
    · refine v_null C d_Bs_requestAt_21 ?_
      exact v_aret hQ C rfl (Or.inl rfl) d_Bs_requestAt_22 (by omega) (by omega) ⟨rfl, Or.inl ⟨Or.inr c_9, rfl⟩⟩
    · obtain ⟨j, hj, rfl⟩ : ∃ j : Nat, j < G.N 0 ∧ x = nI j := by
        rcases pk_ix x (n := G.N 0) (by omega) with h | h | h
        · exact absurd h c_1
        · exact absurd h c_9
        · exact h
      refine v_aload_n C (i := 0) d_Bs_requestAt_12 rfl rfl ?_
      refine v_get C (v := .ref (ad 5)) in_Bs h.o cl_Bs 2 (by decide) w_105 rfl rfl d_Bs_requestAt_13 ?_
      refine v_iload_n C (i := 1) d_Bs_requestAt_16 rfl rfl ?_
      refine v_aldq C (N := 120) (f := fun i => if i < G.N 0 then some (ad (30 + 2 * i)) else none) 2 h.rs rfl (pk_in j 120 (by omega)) (v := .ref (ad (30 + 2 * j))) (by rw [pk_cl j]; show va_rf (if j < G.N 0 then some (ad (30 + 2 * j)) else none) = _; rw [if_pos hj]; rfl) d_Bs_requestAt_17 ?_
      refine v_goto C 22 d_Bs_requestAt_18 (by decide) ?_
      exact v_aret hQ C rfl (Or.inr ⟨_, rfl⟩) d_Bs_requestAt_22 (by omega) (by omega) ⟨rfl, Or.inr ⟨j, hj, rfl, rfl⟩⟩
set_option maxHeartbeats 4000000 in
set_option maxRecDepth 100000 in
theorem ct_Bs_firstOpenRequest {D : va_G} {l : Launch} {cI cZ cR cM : ClassId} {M : Mem} {ad : Nat → Nat} {G : G1} (h : R1 cI cR cM M ad G) (hn : G.N 0 ≤ 120) : Ct TT D cls (tyL cI cZ cR cM) l y_Bs_firstOpenRequest b_Bs_firstOpenRequest 2 (some .int) 0 0 0 0 [.ref (ad 0)] M (fun rv M' => M' = M ∧ ((plc (G.T 7) 0 (G.N 0) < G.N 0 ∧ rv = some (.int (nI (plc (G.T 7) 0 (G.N 0))))) ∨ (plc (G.T 7) 0 (G.N 0) = G.N 0 ∧ rv = some (.int (-3))))) := by
  refine ct_of "BlockTargetSession" rfl (by decide) (Nat.le_of_ble_eq_true rfl) ?_
  intro Z hl hD hnm hQ C
  subst hl
  subst hD
  show V cls 2 (rmOf 0 0 0 0) Z 0 [(0, .ref (ad 0))] [] M 0 0
  refine v_iconst C (v := 0) d_Bs_firstOpenRequest_0 (by decide) ?_
  refine v_istore_n C (i := 1) (lv' := [(1, .int 0), (0, .ref (ad 0))]) d_Bs_firstOpenRequest_1 rfl (by decide) rfl ?_
  have L : ∀ (fu i : Nat), G.N 0 - i < fu → i ≤ G.N 0 → (∀ q, q < i → G.T 7 q ≠ 0) → V cls 2 (rmOf 0 0 0 0) Z 2 [(1, .int (nI i)), (0, .ref (ad 0))] [] M 0 0 := by
    intro fu
    induction fu with
    | zero => intro i hf; omega
    | succ fu ih =>
      intro i hf hi hq
      refine v_iload_n C (i := 1) d_Bs_firstOpenRequest_2 rfl rfl ?_
      refine v_aload_n C (i := 0) d_Bs_firstOpenRequest_3 rfl rfl ?_
      refine v_get C (v := .int (nI (G.N 0))) in_Bs h.o cl_Bs 3 (by decide) w_106 rfl rfl d_Bs_firstOpenRequest_4 ?_
      refine v_icmp_ge C 30 d_Bs_firstOpenRequest_7 (by decide) (fun c_7 => ?_) (fun c_7 => ?_)
      · have hi2 : i = G.N 0 := Nat.le_antisymm hi ((nI_leI (by omega) (by omega)).mp c_7)
        refine v_bipush C (v := (-3)) d_Bs_firstOpenRequest_30 (by decide) ?_
        exact v_iret hQ C rfl d_Bs_firstOpenRequest_32 (by omega) (by omega) ⟨rfl, Or.inr ⟨plc_no _ (fun q hq2 => hq q (by omega)), rfl⟩⟩
      · have hi2 : i < G.N 0 := Nat.lt_of_not_le (fun h => c_7 ((nI_leI (by omega) (by omega)).mpr h))
        refine v_aload_n C (i := 0) d_Bs_firstOpenRequest_10 rfl rfl ?_
        refine v_get C (v := .ref (ad 5)) in_Bs h.o cl_Bs 2 (by decide) w_105 rfl rfl d_Bs_firstOpenRequest_11 ?_
        refine v_iload_n C (i := 1) d_Bs_firstOpenRequest_14 rfl rfl ?_
        refine v_aldq C (N := 120) (f := fun i => if i < G.N 0 then some (ad (30 + 2 * i)) else none) 2 h.rs rfl (pk_in i 120 (by omega)) (v := .ref (ad (30 + 2 * i))) (by rw [pk_cl i]; show va_rf (if i < G.N 0 then some (ad (30 + 2 * i)) else none) = _; rw [if_pos hi2]; rfl) d_Bs_firstOpenRequest_15 ?_
        refine v_get C (v := .int ((G.T 7) i)) in_Rq (h.rq i hi2) cl_Rq 5 (by decide) w_167 rfl rfl d_Bs_firstOpenRequest_16 ?_
        refine v_if_ne C 24 d_Bs_firstOpenRequest_19 (by decide) (fun c_19 => ?_) (fun c_19 => ?_)
        · refine v_iinc C (i := 1) (j := 0) (v := nI (i + 1)) (lv' := [(1, .int (nI (i + 1))), (0, .ref (ad 0))]) d_Bs_firstOpenRequest_24 rfl (nI_1 i) (by decide) rfl ?_
          refine v_goto C 2 d_Bs_firstOpenRequest_27 (by decide) ?_
          exact ih (i + 1) (by omega) (by omega) (fun q hq2 => by
            by_cases c : q = i
            · subst c; exact c_19
            · exact hq q (by omega))
        · refine v_iload_n C (i := 1) d_Bs_firstOpenRequest_22 rfl rfl ?_
          exact v_iret hQ C rfl d_Bs_firstOpenRequest_23 (by omega) (by omega) ⟨rfl, Or.inl ⟨by rw [plc_of c_19 hq _ hi2]; exact hi2, by rw [plc_of c_19 hq _ hi2]⟩⟩
  refine V.pick (lv' := [(1, .int (nI 0)), (0, .ref (ad 0))]) [0, 1] (by rw [nI_0]; rfl) ?_
  exact L (G.N 0 + 1) 0 (by omega) (by omega) (fun q hq => absurd hq (Nat.not_lt_zero q))
set_option maxHeartbeats 4000000 in
set_option maxRecDepth 100000 in
theorem ct_Bs_requestsIn {D : va_G} {l : Launch} {cI cZ cR cM : ClassId} {M : Mem} {ad : Nat → Nat} {G : G1} (h : R1 cI cR cM M ad G) (hn : G.N 0 ≤ 120) (b : Int32) : Ct TT D cls (tyL cI cZ cR cM) l y_Bs_requestsIn b_Bs_requestsIn 4 (some .int) 0 0 0 0 [.ref (ad 0), .int b] M (fun rv M' => M' = M ∧ rv = some (.int (nI (cnt (G.T 7) b (G.N 0))))) := by
  refine ct_of "BlockTargetSession" rfl (by decide) (Nat.le_of_ble_eq_true rfl) ?_
  intro Z hl hD hnm hQ C
  subst hl
  subst hD
  show V cls 4 (rmOf 0 0 0 0) Z 0 [(0, .ref (ad 0)), (1, .int b)] [] M 0 0
  refine v_iconst C (v := 0) d_Bs_requestsIn_0 (by decide) ?_
  refine v_istore_n C (i := 2) (lv' := [(2, .int 0), (0, .ref (ad 0)), (1, .int b)]) d_Bs_requestsIn_1 rfl (by decide) rfl ?_
  refine v_iconst C (v := 0) d_Bs_requestsIn_2 (by decide) ?_
  refine v_istore_n C (i := 3) (lv' := [(3, .int 0), (2, .int 0), (0, .ref (ad 0)), (1, .int b)]) d_Bs_requestsIn_3 rfl (by decide) rfl ?_
  have L : ∀ (fu i : Nat), G.N 0 - i < fu → i ≤ G.N 0 → V cls 4 (rmOf 0 0 0 0) Z 4 [(3, .int (nI i)), (2, .int (nI (cnt (G.T 7) b i))), (0, .ref (ad 0)), (1, .int b)] [] M 0 0 := by
    intro fu
    induction fu with
    | zero => intro i hf; omega
    | succ fu ih =>
      intro i hf hi
      refine v_iload_n C (i := 3) d_Bs_requestsIn_4 rfl rfl ?_
      refine v_aload_n C (i := 0) d_Bs_requestsIn_5 rfl rfl ?_
      refine v_get C (v := .int (nI (G.N 0))) in_Bs h.o cl_Bs 3 (by decide) w_106 rfl rfl d_Bs_requestsIn_6 ?_
      refine v_icmp_ge C 34 d_Bs_requestsIn_9 (by decide) (fun c_9 => ?_) (fun c_9 => ?_)
      · have hi2 : i = G.N 0 := Nat.le_antisymm hi ((nI_leI (by omega) (by omega)).mp c_9)
        refine v_iload_n C (i := 2) d_Bs_requestsIn_34 rfl rfl ?_
        exact v_iret hQ C rfl d_Bs_requestsIn_35 (by omega) (by omega) ⟨rfl, by rw [hi2]⟩
      · have hi2 : i < G.N 0 := Nat.lt_of_not_le (fun h => c_9 ((nI_leI (by omega) (by omega)).mpr h))
        refine v_aload_n C (i := 0) d_Bs_requestsIn_12 rfl rfl ?_
        refine v_get C (v := .ref (ad 5)) in_Bs h.o cl_Bs 2 (by decide) w_105 rfl rfl d_Bs_requestsIn_13 ?_
        refine v_iload_n C (i := 3) d_Bs_requestsIn_16 rfl rfl ?_
        refine v_aldq C (N := 120) (f := fun i => if i < G.N 0 then some (ad (30 + 2 * i)) else none) 2 h.rs rfl (pk_in i 120 (by omega)) (v := .ref (ad (30 + 2 * i))) (by rw [pk_cl i]; show va_rf (if i < G.N 0 then some (ad (30 + 2 * i)) else none) = _; rw [if_pos hi2]; rfl) d_Bs_requestsIn_17 ?_
        refine v_get C (v := .int ((G.T 7) i)) in_Rq (h.rq i hi2) cl_Rq 5 (by decide) w_167 rfl rfl d_Bs_requestsIn_18 ?_
        refine v_iload_n C (i := 1) d_Bs_requestsIn_21 rfl rfl ?_
        refine v_icmp_ne C 28 d_Bs_requestsIn_22 (by decide) (fun c_22 => ?_) (fun c_22 => ?_)
        · refine v_iinc C (i := 3) (j := 0) (v := nI (i + 1)) (lv' := [(3, .int (nI (i + 1))), (2, .int (nI (cnt (G.T 7) b i))), (0, .ref (ad 0)), (1, .int b)]) d_Bs_requestsIn_28 rfl (nI_1 i) (by decide) rfl ?_
          refine v_goto C 4 d_Bs_requestsIn_31 (by decide) ?_
          refine V.pick (lv' := [(3, .int (nI (i + 1))), (2, .int (nI (cnt (G.T 7) b i))), (0, .ref (ad 0)), (1, .int b)]) [0, 1, 2, 3] rfl ?_
          have e : cnt (G.T 7) b (i + 1) = (cnt (G.T 7) b i) := by rw [cnt, if_neg c_22, Nat.add_zero]
          have k9 := ih (i + 1) (by omega) (by omega)
          rw [e] at k9
          exact k9
        · refine v_iinc C (i := 2) (j := 1) (v := nI (cnt (G.T 7) b i + 1)) (lv' := [(2, .int (nI (cnt (G.T 7) b i + 1))), (3, .int (nI i)), (0, .ref (ad 0)), (1, .int b)]) d_Bs_requestsIn_25 rfl (nI_1 _) (by decide) rfl ?_
          refine v_iinc C (i := 3) (j := 1) (v := nI (i + 1)) (lv' := [(3, .int (nI (i + 1))), (2, .int (nI (cnt (G.T 7) b i + 1))), (0, .ref (ad 0)), (1, .int b)]) d_Bs_requestsIn_28 rfl (nI_1 i) (by decide) rfl ?_
          refine v_goto C 4 d_Bs_requestsIn_31 (by decide) ?_
          refine V.pick (lv' := [(3, .int (nI (i + 1))), (2, .int (nI (cnt (G.T 7) b i + 1))), (0, .ref (ad 0)), (1, .int b)]) [0, 1, 2, 3] rfl ?_
          have e : cnt (G.T 7) b (i + 1) = (cnt (G.T 7) b i + 1) := by rw [cnt, if_pos c_22]
          have k9 := ih (i + 1) (by omega) (by omega)
          rw [e] at k9
          exact k9
  refine V.pick (lv' := [(3, .int (nI 0)), (2, .int (nI (cnt (G.T 7) b 0))), (0, .ref (ad 0)), (1, .int b)]) [0, 1, 2, 3] (by rw [cnt, nI_0]; rfl) ?_
  exact L (G.N 0 + 1) 0 (by omega) (by omega)
set_option maxHeartbeats 4000000 in
set_option maxRecDepth 100000 in
theorem ct_Bs_beginSession {D : va_G} {l : Launch} {cI cZ cR cM : ClassId} {M : Mem} {ad : Nat → Nat} {G : G1} (h : R1 cI cR cM M ad G)  : Ct TT D cls (tyL cI cZ cR cM) l y_Bs_beginSession b_Bs_beginSession 1 none 0 0 0 0 [.ref (ad 0)] M (fun rv M' => rv = none ∧ R1 cI cR cM M' ad G.bg) := by
  refine ct_of "BlockTargetSession" rfl (by decide) (Nat.le_of_ble_eq_true rfl) ?_
  intro Z hl hD hnm hQ C
  subst hl
  subst hD
  show V cls 1 (rmOf 0 0 0 0) Z 0 [(0, .ref (ad 0))] [] M 0 0
  refine v_aload_n C (i := 0) d_Bs_beginSession_0 rfl rfl ?_
  refine v_iconst C (v := 1) d_Bs_beginSession_1 (by decide) ?_
  refine v_put C in_Bs t_Bs to_Bs nm_Bs h.o cl_Bs 6 (by decide) (fs' := [.int (G.I 0), .ref (ad 1), .ref (ad 5), .int (nI (G.N 0)), .ref (ad 6), .ref (ad 8), .int 1, .int (G.I 2), .int (G.I 3), .int (G.I 4), .int (G.I 5)]) w_109 rfl rfl rfl rfl (Nat.le_of_ble_eq_true rfl) rfl d_Bs_beginSession_2 ?_
  have h : R1 cI cR cM (mset M (ad 0) (ob 4 [.int (G.I 0), .ref (ad 1), .ref (ad 5), .int (nI (G.N 0)), .ref (ad 6), .ref (ad 8), .int 1, .int (G.I 2), .int (G.I 3), .int (G.I 4), .int (G.I 5)])) ad (G.sI 1 1) := h.po 1 1
  revert h
  generalize mset M (ad 0) (ob 4 [.int (G.I 0), .ref (ad 1), .ref (ad 5), .int (nI (G.N 0)), .ref (ad 6), .ref (ad 8), .int 1, .int (G.I 2), .int (G.I 3), .int (G.I 4), .int (G.I 5)]) = M
  intro h
  refine v_aload_n C (i := 0) d_Bs_beginSession_5 rfl rfl ?_
  refine v_dup C d_Bs_beginSession_6 rfl ?_
  refine v_get C (v := .int (G.I 2)) in_Bs h.o cl_Bs 7 (by decide) w_110 rfl rfl d_Bs_beginSession_7 ?_
  refine v_iconst C (v := 1) d_Bs_beginSession_10 (by decide) ?_
  refine v_iadd C d_Bs_beginSession_11 ?_
  refine v_put C in_Bs t_Bs to_Bs nm_Bs h.o cl_Bs 7 (by decide) (fs' := [.int (G.I 0), .ref (ad 1), .ref (ad 5), .int (nI (G.N 0)), .ref (ad 6), .ref (ad 8), .int 1, .int ((G.I 2) + 1), .int (G.I 3), .int (G.I 4), .int (G.I 5)]) w_110 rfl rfl rfl rfl (Nat.le_of_ble_eq_true rfl) rfl d_Bs_beginSession_12 ?_
  have h : R1 cI cR cM (mset M (ad 0) (ob 4 [.int (G.I 0), .ref (ad 1), .ref (ad 5), .int (nI (G.N 0)), .ref (ad 6), .ref (ad 8), .int 1, .int ((G.I 2) + 1), .int (G.I 3), .int (G.I 4), .int (G.I 5)])) ad ((G.sI 1 1).sI 2 ((G.I 2) + 1)) := h.po 2 ((G.I 2) + 1)
  revert h
  generalize mset M (ad 0) (ob 4 [.int (G.I 0), .ref (ad 1), .ref (ad 5), .int (nI (G.N 0)), .ref (ad 6), .ref (ad 8), .int 1, .int ((G.I 2) + 1), .int (G.I 3), .int (G.I 4), .int (G.I 5)]) = M
  intro h
  refine v_aload_n C (i := 0) d_Bs_beginSession_15 rfl rfl ?_
  refine v_iconst C (v := 0) d_Bs_beginSession_16 (by decide) ?_
  refine v_put C in_Bs t_Bs to_Bs nm_Bs h.o cl_Bs 8 (by decide) (fs' := [.int (G.I 0), .ref (ad 1), .ref (ad 5), .int (nI (G.N 0)), .ref (ad 6), .ref (ad 8), .int 1, .int ((G.I 2) + 1), .int 0, .int (G.I 4), .int (G.I 5)]) w_111 rfl rfl rfl rfl (Nat.le_of_ble_eq_true rfl) rfl d_Bs_beginSession_17 ?_
  have h : R1 cI cR cM (mset M (ad 0) (ob 4 [.int (G.I 0), .ref (ad 1), .ref (ad 5), .int (nI (G.N 0)), .ref (ad 6), .ref (ad 8), .int 1, .int ((G.I 2) + 1), .int 0, .int (G.I 4), .int (G.I 5)])) ad (((G.sI 1 1).sI 2 ((G.I 2) + 1)).sI 3 0) := h.po 3 0
  revert h
  generalize mset M (ad 0) (ob 4 [.int (G.I 0), .ref (ad 1), .ref (ad 5), .int (nI (G.N 0)), .ref (ad 6), .ref (ad 8), .int 1, .int ((G.I 2) + 1), .int 0, .int (G.I 4), .int (G.I 5)]) = M
  intro h
  refine v_aload_n C (i := 0) d_Bs_beginSession_20 rfl rfl ?_
  refine v_iconst C (v := 0) d_Bs_beginSession_21 (by decide) ?_
  refine v_put C in_Bs t_Bs to_Bs nm_Bs h.o cl_Bs 9 (by decide) (fs' := [.int (G.I 0), .ref (ad 1), .ref (ad 5), .int (nI (G.N 0)), .ref (ad 6), .ref (ad 8), .int 1, .int ((G.I 2) + 1), .int 0, .int 0, .int (G.I 5)]) w_112 rfl rfl rfl rfl (Nat.le_of_ble_eq_true rfl) rfl d_Bs_beginSession_22 ?_
  have h : R1 cI cR cM (mset M (ad 0) (ob 4 [.int (G.I 0), .ref (ad 1), .ref (ad 5), .int (nI (G.N 0)), .ref (ad 6), .ref (ad 8), .int 1, .int ((G.I 2) + 1), .int 0, .int 0, .int (G.I 5)])) ad ((((G.sI 1 1).sI 2 ((G.I 2) + 1)).sI 3 0).sI 4 0) := h.po 4 0
  revert h
  generalize mset M (ad 0) (ob 4 [.int (G.I 0), .ref (ad 1), .ref (ad 5), .int (nI (G.N 0)), .ref (ad 6), .ref (ad 8), .int 1, .int ((G.I 2) + 1), .int 0, .int 0, .int (G.I 5)]) = M
  intro h
  refine v_aload_n C (i := 0) d_Bs_beginSession_25 rfl rfl ?_
  refine v_aload_n C (i := 0) d_Bs_beginSession_26 rfl rfl ?_
  refine v_get C (v := .int (G.I 0)) in_Bs h.o cl_Bs 0 (by decide) w_103 rfl rfl d_Bs_beginSession_27 ?_
  refine v_put C in_Bs t_Bs to_Bs nm_Bs h.o cl_Bs 10 (by decide) (fs' := [.int (G.I 0), .ref (ad 1), .ref (ad 5), .int (nI (G.N 0)), .ref (ad 6), .ref (ad 8), .int 1, .int ((G.I 2) + 1), .int 0, .int 0, .int (G.I 0)]) w_113 rfl rfl rfl rfl (Nat.le_of_ble_eq_true rfl) rfl d_Bs_beginSession_30 ?_
  have h : R1 cI cR cM (mset M (ad 0) (ob 4 [.int (G.I 0), .ref (ad 1), .ref (ad 5), .int (nI (G.N 0)), .ref (ad 6), .ref (ad 8), .int 1, .int ((G.I 2) + 1), .int 0, .int 0, .int (G.I 0)])) ad (((((G.sI 1 1).sI 2 ((G.I 2) + 1)).sI 3 0).sI 4 0).sI 5 (G.I 0)) := h.po 5 (G.I 0)
  revert h
  generalize mset M (ad 0) (ob 4 [.int (G.I 0), .ref (ad 1), .ref (ad 5), .int (nI (G.N 0)), .ref (ad 6), .ref (ad 8), .int 1, .int ((G.I 2) + 1), .int 0, .int 0, .int (G.I 0)]) = M
  intro h
  exact v_vret hQ C rfl d_Bs_beginSession_33 (by omega) (by omega) ⟨rfl, h⟩
set_option maxHeartbeats 4000000 in
set_option maxRecDepth 100000 in
theorem ct_Bs_breakSession {D : va_G} {l : Launch} {cI cZ cR cM : ClassId} {M : Mem} {ad : Nat → Nat} {G : G1} (h : R1 cI cR cM M ad G) (hn : G.N 0 ≤ 120) (hrl : ∀ j, j < G.N 0 → rlen G j ≤ 200) : Ct TT D cls (tyL cI cZ cR cM) l y_Bs_breakSession b_Bs_breakSession 2 none 2 43 0 0 [.ref (ad 0)] M (fun rv M' => rv = none ∧ ∃ rr, (∀ j, G.T 7 j ≠ 1 → rr j = G.R j) ∧ R1 cI cR cM M' ad (G.bk rr)) := by
  refine ct_of "BlockTargetSession" rfl (by decide) (Nat.le_of_ble_eq_true rfl) ?_
  intro Z hl hD hnm hQ C
  subst hl
  subst hD
  show V cls 2 (rmOf 2 43 0 0) Z 0 [(0, .ref (ad 0))] [] M 0 0
  refine v_aload_n C (i := 0) d_Bs_breakSession_0 rfl rfl ?_
  refine v_get C (v := .ref (ad 6)) in_Bs h.o cl_Bs 4 (by decide) w_107 rfl rfl d_Bs_breakSession_1 ?_
  refine v_callV C (As := []) (rest := []) (h.ln 0 (by decide)) cl_Ln rfl w_226 w_227 (ct_Ln_clear (h.ln 0 (by decide))) (Nat.le_of_ble_eq_true rfl) (Nat.le_of_ble_eq_true rfl) w_228 w_2 hy_Ln_clear w_225 rfl (Nat.le_of_ble_eq_true rfl) ⟨by decide, by decide⟩ d_Bs_breakSession_4 (fun rv M hp => ?_)
  obtain ⟨rfl, rfl⟩ := hp
  have h : R1 cI cR cM (mset M (ad 6) (ob 0 [.ref (ad 7), .int (nI 0)])) ad (G.sN 2 0) := h.psz 0 0 (by decide)
  revert h
  generalize mset M (ad 6) (ob 0 [.ref (ad 7), .int (nI 0)]) = M
  intro h
  refine V.eqst (st' := []) rfl (V.cs (k' := 0) (n' := 0) rfl rfl ?_)
  refine v_aload_n C (i := 0) d_Bs_breakSession_7 rfl rfl ?_
  refine v_get C (v := .ref (ad 8)) in_Bs h.o cl_Bs 5 (by decide) w_108 rfl rfl d_Bs_breakSession_8 ?_
  refine v_callV C (As := []) (rest := []) (h.ln 1 (by decide)) cl_Ln rfl w_226 w_227 (ct_Ln_clear (h.ln 1 (by decide))) (Nat.le_of_ble_eq_true rfl) (Nat.le_of_ble_eq_true rfl) w_228 w_2 hy_Ln_clear w_225 rfl (Nat.le_of_ble_eq_true rfl) ⟨by decide, by decide⟩ d_Bs_breakSession_11 (fun rv M hp => ?_)
  obtain ⟨rfl, rfl⟩ := hp
  have h : R1 cI cR cM (mset M (ad 8) (ob 0 [.ref (ad 9), .int (nI 0)])) ad ((G.sN 2 0).sN 3 0) := h.psz 1 0 (by decide)
  revert h
  generalize mset M (ad 8) (ob 0 [.ref (ad 9), .int (nI 0)]) = M
  intro h
  refine V.eqst (st' := []) rfl (V.cs (k' := 0) (n' := 0) rfl rfl ?_)
  refine v_aload_n C (i := 0) d_Bs_breakSession_14 rfl rfl ?_
  refine v_iconst C (v := 0) d_Bs_breakSession_15 (by decide) ?_
  refine v_put C in_Bs t_Bs to_Bs nm_Bs h.o cl_Bs 6 (by decide) (fs' := [.int (G.I 0), .ref (ad 1), .ref (ad 5), .int (nI (G.N 0)), .ref (ad 6), .ref (ad 8), .int 0, .int (G.I 2), .int (G.I 3), .int (G.I 4), .int (G.I 5)]) w_109 rfl rfl rfl rfl (Nat.le_of_ble_eq_true rfl) rfl d_Bs_breakSession_16 ?_
  have h : R1 cI cR cM (mset M (ad 0) (ob 4 [.int (G.I 0), .ref (ad 1), .ref (ad 5), .int (nI (G.N 0)), .ref (ad 6), .ref (ad 8), .int 0, .int (G.I 2), .int (G.I 3), .int (G.I 4), .int (G.I 5)])) ad (((G.sN 2 0).sN 3 0).sI 1 0) := h.po 1 0
  revert h
  generalize mset M (ad 0) (ob 4 [.int (G.I 0), .ref (ad 1), .ref (ad 5), .int (nI (G.N 0)), .ref (ad 6), .ref (ad 8), .int 0, .int (G.I 2), .int (G.I 3), .int (G.I 4), .int (G.I 5)]) = M
  intro h
  refine v_aload_n C (i := 0) d_Bs_breakSession_19 rfl rfl ?_
  refine v_iconst C (v := 0) d_Bs_breakSession_20 (by decide) ?_
  refine v_put C in_Bs t_Bs to_Bs nm_Bs h.o cl_Bs 8 (by decide) (fs' := [.int (G.I 0), .ref (ad 1), .ref (ad 5), .int (nI (G.N 0)), .ref (ad 6), .ref (ad 8), .int 0, .int (G.I 2), .int 0, .int (G.I 4), .int (G.I 5)]) w_111 rfl rfl rfl rfl (Nat.le_of_ble_eq_true rfl) rfl d_Bs_breakSession_21 ?_
  have h : R1 cI cR cM (mset M (ad 0) (ob 4 [.int (G.I 0), .ref (ad 1), .ref (ad 5), .int (nI (G.N 0)), .ref (ad 6), .ref (ad 8), .int 0, .int (G.I 2), .int 0, .int (G.I 4), .int (G.I 5)])) ad ((((G.sN 2 0).sN 3 0).sI 1 0).sI 3 0) := h.po 3 0
  revert h
  generalize mset M (ad 0) (ob 4 [.int (G.I 0), .ref (ad 1), .ref (ad 5), .int (nI (G.N 0)), .ref (ad 6), .ref (ad 8), .int 0, .int (G.I 2), .int 0, .int (G.I 4), .int (G.I 5)]) = M
  intro h
  refine v_aload_n C (i := 0) d_Bs_breakSession_24 rfl rfl ?_
  refine v_iconst C (v := 0) d_Bs_breakSession_25 (by decide) ?_
  refine v_put C in_Bs t_Bs to_Bs nm_Bs h.o cl_Bs 9 (by decide) (fs' := [.int (G.I 0), .ref (ad 1), .ref (ad 5), .int (nI (G.N 0)), .ref (ad 6), .ref (ad 8), .int 0, .int (G.I 2), .int 0, .int 0, .int (G.I 5)]) w_112 rfl rfl rfl rfl (Nat.le_of_ble_eq_true rfl) rfl d_Bs_breakSession_26 ?_
  have h : R1 cI cR cM (mset M (ad 0) (ob 4 [.int (G.I 0), .ref (ad 1), .ref (ad 5), .int (nI (G.N 0)), .ref (ad 6), .ref (ad 8), .int 0, .int (G.I 2), .int 0, .int 0, .int (G.I 5)])) ad (((((G.sN 2 0).sN 3 0).sI 1 0).sI 3 0).sI 4 0) := h.po 4 0
  revert h
  generalize mset M (ad 0) (ob 4 [.int (G.I 0), .ref (ad 1), .ref (ad 5), .int (nI (G.N 0)), .ref (ad 6), .ref (ad 8), .int 0, .int (G.I 2), .int 0, .int 0, .int (G.I 5)]) = M
  intro h
  refine v_aload_n C (i := 0) d_Bs_breakSession_29 rfl rfl ?_
  refine v_iconst C (v := 0) d_Bs_breakSession_30 (by decide) ?_
  refine v_put C in_Bs t_Bs to_Bs nm_Bs h.o cl_Bs 10 (by decide) (fs' := [.int (G.I 0), .ref (ad 1), .ref (ad 5), .int (nI (G.N 0)), .ref (ad 6), .ref (ad 8), .int 0, .int (G.I 2), .int 0, .int 0, .int 0]) w_113 rfl rfl rfl rfl (Nat.le_of_ble_eq_true rfl) rfl d_Bs_breakSession_31 ?_
  have h : R1 cI cR cM (mset M (ad 0) (ob 4 [.int (G.I 0), .ref (ad 1), .ref (ad 5), .int (nI (G.N 0)), .ref (ad 6), .ref (ad 8), .int 0, .int (G.I 2), .int 0, .int 0, .int 0])) ad ((((((G.sN 2 0).sN 3 0).sI 1 0).sI 3 0).sI 4 0).sI 5 0) := h.po 5 0
  revert h
  generalize mset M (ad 0) (ob 4 [.int (G.I 0), .ref (ad 1), .ref (ad 5), .int (nI (G.N 0)), .ref (ad 6), .ref (ad 8), .int 0, .int (G.I 2), .int 0, .int 0, .int 0]) = M
  intro h
  refine v_iconst C (v := 0) d_Bs_breakSession_34 (by decide) ?_
  refine v_istore_n C (i := 1) (lv' := [(1, .int 0), (0, .ref (ad 0))]) d_Bs_breakSession_35 rfl (by decide) rfl ?_
  obtain ⟨Gb, hGb⟩ : ∃ Gb, Gb = G.cl2 := ⟨_, rfl⟩
  have h : R1 cI cR cM M ad Gb := by rw [hGb]; exact h
  have b0 : Gb.N 0 = G.N 0 := by rw [hGb]; rfl
  have b7 : Gb.T 7 = G.T 7 := by rw [hGb]; rfl
  have bR : Gb.R = G.R := by rw [hGb]; rfl
  have bl : ∀ j, rlen Gb j = rlen G j := by intro j; rw [hGb]; rfl
  have L : ∀ (fu i : Nat) (M : Mem) (rr : Nat → Nat → Int32), G.N 0 - i < fu → i ≤ G.N 0 → (∀ j, G.T 7 j ≠ 1 → rr j = G.R j) → R1 cI cR cM M ad ((Gb.sT 7 (rop (G.T 7) i)).sRR rr) → V cls 2 (rmOf 2 43 0 0) Z 36 [(1, .int (nI i)), (0, .ref (ad 0))] [] M 0 0 := by
    intro fu
    induction fu with
    | zero => intro i M rr hf; omega
    | succ fu ih =>
      intro i M rr hf hi hrr h
      refine v_iload_n C (i := 1) d_Bs_breakSession_36 rfl rfl ?_
      refine v_aload_n C (i := 0) d_Bs_breakSession_37 rfl rfl ?_
      refine v_get C (v := .int (nI (Gb.N 0))) in_Bs h.o cl_Bs 3 (by decide) w_106 rfl rfl d_Bs_breakSession_38 ?_
      refine v_icmp_ge C 72 d_Bs_breakSession_41 (by decide) (fun c_41 => ?_) (fun c_41 => ?_)
      · have hi2 : i = G.N 0 := Nat.le_antisymm hi ((nI_leI (by omega) (by omega)).mp (by rw [b0] at c_41; exact c_41))
        exact v_vret hQ C rfl d_Bs_breakSession_72 (by omega) (by omega) ⟨rfl, rr, hrr, by rw [hi2, hGb] at h; exact h⟩
      · have hi2 : i < G.N 0 := Nat.lt_of_not_le (fun z => c_41 (by rw [b0]; exact (nI_leI (by omega) (by omega)).mpr z))
        have hi3 : i < Gb.N 0 := by omega
        refine v_aload_n C (i := 0) d_Bs_breakSession_44 rfl rfl ?_
        refine v_get C (v := .ref (ad 5)) in_Bs h.o cl_Bs 2 (by decide) w_105 rfl rfl d_Bs_breakSession_45 ?_
        refine v_iload_n C (i := 1) d_Bs_breakSession_48 rfl rfl ?_
        refine v_aldq C (N := 120) (f := fun i => if i < Gb.N 0 then some (ad (30 + 2 * i)) else none) 2 h.rs rfl (pk_in i 120 (by omega)) (v := .ref (ad (30 + 2 * i))) (by rw [pk_cl i]; show va_rf (if i < Gb.N 0 then some (ad (30 + 2 * i)) else none) = _; rw [if_pos hi3]; rfl) d_Bs_breakSession_49 ?_
        refine v_get C (v := .int ((rop (G.T 7) i) i)) in_Rq (h.rq i hi3) cl_Rq 5 (by decide) w_167 rfl rfl d_Bs_breakSession_50 ?_
        refine v_iconst C (v := 1) d_Bs_breakSession_53 (by decide) ?_
        refine v_icmp_ne C 66 d_Bs_breakSession_54 (by decide) (fun c_54 => ?_) (fun c_54 => ?_)
        · rw [rop_at] at c_54
          refine v_iinc C (i := 1) (j := 0) (v := nI (i + 1)) (lv' := [(1, .int (nI (i + 1))), (0, .ref (ad 0))]) d_Bs_breakSession_66 rfl (nI_1 i) (by decide) rfl ?_
          refine v_goto C 36 d_Bs_breakSession_69 (by decide) ?_
          exact ih (i + 1) M rr (by omega) (by omega) hrr (by rw [← rop_f _ _ c_54]; exact h)
        · rw [rop_at] at c_54
          refine v_aload_n C (i := 0) d_Bs_breakSession_57 rfl rfl ?_
          refine v_get C (v := .ref (ad 5)) in_Bs h.o cl_Bs 2 (by decide) w_105 rfl rfl d_Bs_breakSession_58 ?_
          refine v_iload_n C (i := 1) d_Bs_breakSession_61 rfl rfl ?_
          refine v_aldq C (N := 120) (f := fun i => if i < Gb.N 0 then some (ad (30 + 2 * i)) else none) 2 h.rs rfl (pk_in i 120 (by omega)) (v := .ref (ad (30 + 2 * i))) (by rw [pk_cl i]; show va_rf (if i < Gb.N 0 then some (ad (30 + 2 * i)) else none) = _; rw [if_pos hi3]; rfl) d_Bs_breakSession_62 ?_
          refine v_callV C (As := []) (rest := []) (h.rq i hi3) cl_Rq rfl w_230 w_231 (ct_Rq_reopen (k0 := Gb.T 3 i) (k1 := Gb.T 4 i) (k2 := Gb.T 5 i) (k3 := Gb.T 6 i) (k5 := rop (G.T 7) i i) (N := rlen Gb i) (f := rr i) (h.rq i hi3) (h.rr i hi3) (by rw [bl]; exact hrl i hi2)) (Nat.le_of_ble_eq_true rfl) (Nat.le_of_ble_eq_true rfl) w_232 w_7 hy_Rq_reopen w_229 rfl (Nat.le_of_ble_eq_true rfl) ⟨by decide, by decide⟩ d_Bs_breakSession_63 (fun rv M hp => ?_)
          obtain ⟨rfl, f', rfl, hf'⟩ := hp
          have h := (h.preq i hi3 0).prr i hi3 f'
          have e7 : ((Gb.sT 7 (rop (G.T 7) i)).sRR rr).sT 7 (upd (rop (G.T 7) i) i 0) = (Gb.sT 7 (rop (G.T 7) (i + 1))).sRR rr := by rw [G1.sRR_sT, rop_t _ _ c_54]
          have h : R1 cI cR cM (mset (mset M (ad (30 + 2 * i)) (ob 2 [.int (Gb.T 3 i), .int (Gb.T 4 i), .int (Gb.T 5 i), .int (Gb.T 6 i), .ref (ad (31 + 2 * i)), .int 0])) (ad (31 + 2 * i)) (aI cI (rlen Gb i) f')) ad ((Gb.sT 7 (rop (G.T 7) (i + 1))).sRR (va_up rr i f')) := by
            have h9 : R1 cI cR cM _ ad ((((Gb.sT 7 (rop (G.T 7) i)).sRR rr).sT 7 (upd (rop (G.T 7) i) i 0)).sR i f') := h
            rw [e7] at h9
            exact h9
          revert h
          generalize mset (mset M (ad (30 + 2 * i)) (ob 2 [.int (Gb.T 3 i), .int (Gb.T 4 i), .int (Gb.T 5 i), .int (Gb.T 6 i), .ref (ad (31 + 2 * i)), .int 0])) (ad (31 + 2 * i)) (aI cI (rlen Gb i) f') = M
          intro h
          refine V.eqst (st' := []) rfl (V.cs (k' := 0) (n' := 0) rfl rfl ?_)
          refine v_iinc C (i := 1) (j := 0) (v := nI (i + 1)) (lv' := [(1, .int (nI (i + 1))), (0, .ref (ad 0))]) d_Bs_breakSession_66 rfl (nI_1 i) (by decide) rfl ?_
          refine v_goto C 36 d_Bs_breakSession_69 (by decide) ?_
          exact ih (i + 1) M (va_up rr i f') (by omega) (by omega) (fun j hj => by
            rw [va_up_ne _ _ (fun z => hj (by rw [z]; exact c_54))]; exact hrr j hj) h
  refine V.pick (lv' := [(1, .int (nI 0)), (0, .ref (ad 0))]) [0, 1] (by rw [nI_0]; rfl) ?_
  refine L (G.N 0 + 1) 0 M G.R (by omega) (by omega) (fun j _ => rfl) ?_
  rw [rop_0, ← b7, G1.sT_id, ← bR]
  exact h
