set_option maxHeartbeats 4000000 in
set_option maxRecDepth 100000 in
theorem ct_Bs_send {D : va_G} {l : Launch} {cI cZ cR cM : ClassId} {M : Mem} {ad : Nat → Nat} {G : G1} (h : R1 cI cR cM M ad G) (hn : G.N 0 ≤ 120) (hcap : G.I 3 < G.I 5 → G.N 2 < 4) : Ct TT D cls (tyL cI cZ cR cM) l y_Bs_send b_Bs_send 2 (some .int) 2 49 0 0 [.ref (ad 0)] M (fun rv M' => rv = some (.int G.sendR.1) ∧ R1 cI cR cM M' ad G.sendR.2) := by
  refine ct_of "BlockTargetSession" rfl (by decide) (Nat.le_of_ble_eq_true rfl) ?_
  intro Z hl hD hnm hQ C
  subst hl
  subst hD
  show V cls 2 (rmOf 2 49 0 0) Z 0 [(0, .ref (ad 0))] [] M 0 0
  refine v_aload_n C (i := 0) d_Bs_send_0 rfl rfl ?_
  refine v_get C (v := .int (G.I 1)) in_Bs h.o cl_Bs 6 (by decide) w_109 rfl rfl d_Bs_send_1 ?_
  refine v_if_ne C 10 d_Bs_send_4 (by decide) (fun c_4 => ?_) (fun c_4 => ?_)
  · refine v_aload_n C (i := 0) d_Bs_send_10 rfl rfl ?_
    refine v_callV C (As := []) (rest := []) h.o cl_Bs rfl w_195 wp_2 (ct_Bs_firstOpenRequest h hn) (Nat.le_of_ble_eq_true rfl) (Nat.le_of_ble_eq_true rfl) w_196 w_1 hy_Bs_firstOpenRequest w_193 rfl (Nat.le_of_ble_eq_true rfl) ⟨by decide, by decide⟩ d_Bs_send_11 (fun rv M hp => ?_)
    obtain ⟨rfl, hp⟩ := hp
    rcases hp with ⟨hlt, rfl⟩ | ⟨heq, rfl⟩
    · refine V.eqst (st' := [.int (nI (plc (G.T 7) 0 (G.N 0)))]) rfl (V.cs (k' := 0) (n' := 0) rfl rfl ?_)
      refine v_istore_n C (i := 1) (lv' := [(1, .int (nI (plc (G.T 7) 0 (G.N 0)))), (0, .ref (ad 0))]) d_Bs_send_14 rfl (by decide) rfl ?_
      refine v_iload_n C (i := 1) d_Bs_send_15 rfl rfl ?_
      refine v_bipush C (v := (-3)) d_Bs_send_16 (by decide) ?_
      refine v_icmp_ne C 24 d_Bs_send_18 (by decide) (fun c_18 => ?_) (fun c_18 => absurd c_18 (fun z => nI_pos (n := plc (G.T 7) 0 (G.N 0)) (by omega) (by rw [z]; decide)))
      refine v_aload_n C (i := 0) d_Bs_send_24 rfl rfl ?_
      refine v_get C (v := .int (G.I 3)) in_Bs h.o cl_Bs 8 (by decide) w_111 rfl rfl d_Bs_send_25 ?_
      refine v_aload_n C (i := 0) d_Bs_send_28 rfl rfl ?_
      refine v_get C (v := .int (G.I 5)) in_Bs h.o cl_Bs 10 (by decide) w_113 rfl rfl d_Bs_send_29 ?_
      refine v_icmp_lt C 38 d_Bs_send_32 (by decide) (fun c_32 => ?_) (fun c_32 => ?_)
      · refine v_aload_n C (i := 0) d_Bs_send_38 rfl rfl ?_
        refine v_get C (v := .ref (ad 5)) in_Bs h.o cl_Bs 2 (by decide) w_105 rfl rfl d_Bs_send_39 ?_
        refine v_iload_n C (i := 1) d_Bs_send_42 rfl rfl ?_
        refine v_aldq C (N := 120) (f := fun i => if i < G.N 0 then some (ad (30 + 2 * i)) else none) 2 h.rs rfl (pk_in (plc (G.T 7) 0 (G.N 0)) 120 (by omega)) (v := .ref (ad (30 + 2 * (plc (G.T 7) 0 (G.N 0))))) (by rw [pk_cl (plc (G.T 7) 0 (G.N 0))]; show va_rf (if plc (G.T 7) 0 (G.N 0) < G.N 0 then some (ad (30 + 2 * (plc (G.T 7) 0 (G.N 0)))) else none) = _; rw [if_pos hlt]; rfl) d_Bs_send_43 ?_
        refine v_iconst C (v := 1) d_Bs_send_44 (by decide) ?_
        refine v_put C in_Rq t_Rq to_Rq nm_Rq (h.rq (plc (G.T 7) 0 (G.N 0)) hlt) cl_Rq 5 (by decide) (fs' := [.int ((G.T 3) (plc (G.T 7) 0 (G.N 0))), .int ((G.T 4) (plc (G.T 7) 0 (G.N 0))), .int ((G.T 5) (plc (G.T 7) 0 (G.N 0))), .int ((G.T 6) (plc (G.T 7) 0 (G.N 0))), .ref (ad (31 + 2 * (plc (G.T 7) 0 (G.N 0)))), .int 1]) w_167 rfl rfl rfl rfl (Nat.le_of_ble_eq_true rfl) rfl d_Bs_send_45 ?_
        have h : R1 cI cR cM (mset M (ad (30 + 2 * (plc (G.T 7) 0 (G.N 0)))) (ob 2 [.int ((G.T 3) (plc (G.T 7) 0 (G.N 0))), .int ((G.T 4) (plc (G.T 7) 0 (G.N 0))), .int ((G.T 5) (plc (G.T 7) 0 (G.N 0))), .int ((G.T 6) (plc (G.T 7) 0 (G.N 0))), .ref (ad (31 + 2 * (plc (G.T 7) 0 (G.N 0)))), .int 1])) ad (G.sT 7 (upd (G.T 7) (plc (G.T 7) 0 (G.N 0)) 1)) := h.preq (plc (G.T 7) 0 (G.N 0)) hlt 1
        revert h
        generalize mset M (ad (30 + 2 * (plc (G.T 7) 0 (G.N 0)))) (ob 2 [.int ((G.T 3) (plc (G.T 7) 0 (G.N 0))), .int ((G.T 4) (plc (G.T 7) 0 (G.N 0))), .int ((G.T 5) (plc (G.T 7) 0 (G.N 0))), .int ((G.T 6) (plc (G.T 7) 0 (G.N 0))), .ref (ad (31 + 2 * (plc (G.T 7) 0 (G.N 0)))), .int 1]) = M
        intro h
        refine v_aload_n C (i := 0) d_Bs_send_48 rfl rfl ?_
        refine v_dup C d_Bs_send_49 rfl ?_
        refine v_get C (v := .int (G.I 3)) in_Bs h.o cl_Bs 8 (by decide) w_111 rfl rfl d_Bs_send_50 ?_
        refine v_iconst C (v := 1) d_Bs_send_53 (by decide) ?_
        refine v_iadd C d_Bs_send_54 ?_
        refine v_put C in_Bs t_Bs to_Bs nm_Bs h.o cl_Bs 8 (by decide) (fs' := [.int (G.I 0), .ref (ad 1), .ref (ad 5), .int (nI (G.N 0)), .ref (ad 6), .ref (ad 8), .int (G.I 1), .int (G.I 2), .int ((G.I 3) + 1), .int (G.I 4), .int (G.I 5)]) w_111 rfl rfl rfl rfl (Nat.le_of_ble_eq_true rfl) rfl d_Bs_send_55 ?_
        have h : R1 cI cR cM (mset M (ad 0) (ob 4 [.int (G.I 0), .ref (ad 1), .ref (ad 5), .int (nI (G.N 0)), .ref (ad 6), .ref (ad 8), .int (G.I 1), .int (G.I 2), .int ((G.I 3) + 1), .int (G.I 4), .int (G.I 5)])) ad ((G.sT 7 (upd (G.T 7) (plc (G.T 7) 0 (G.N 0)) 1)).sI 3 ((G.I 3) + 1)) := h.po 3 ((G.I 3) + 1)
        revert h
        generalize mset M (ad 0) (ob 4 [.int (G.I 0), .ref (ad 1), .ref (ad 5), .int (nI (G.N 0)), .ref (ad 6), .ref (ad 8), .int (G.I 1), .int (G.I 2), .int ((G.I 3) + 1), .int (G.I 4), .int (G.I 5)]) = M
        intro h
        refine v_aload_n C (i := 0) d_Bs_send_58 rfl rfl ?_
        refine v_iload_n C (i := 1) d_Bs_send_59 rfl rfl ?_
        refine v_iconst C (v := 0) d_Bs_send_60 (by decide) ?_
        refine v_iconst C (v := 0) d_Bs_send_61 (by decide) ?_
        refine v_callV C (As := [.int (nI (plc (G.T 7) 0 (G.N 0))), .int 0, .int 0]) (rest := []) h.o cl_Bs rfl w_199 wp_3 (ct_Bs_sendUp h (hcap c_32) (nI (plc (G.T 7) 0 (G.N 0))) 0 0) (Nat.le_of_ble_eq_true rfl) (Nat.le_of_ble_eq_true rfl) w_200 w_1 hy_Bs_sendUp w_197 rfl (Nat.le_of_ble_eq_true rfl) ⟨by decide, by decide⟩ d_Bs_send_62 (fun rv M hp => ?_)
        obtain ⟨rfl, hw⟩ := hp
        refine V.eqst (st' := []) rfl (V.cs (k' := 0) (n' := 0) rfl rfl ?_)
        refine v_iload_n C (i := 1) d_Bs_send_65 rfl rfl ?_
        exact v_iret hQ C rfl d_Bs_send_66 (by omega) (by omega) (by rw [G1.sendR, if_neg c_4, if_neg (by omega), if_pos c_32]; exact ⟨rfl, hw⟩)
      · refine v_bipush C (v := (-2)) d_Bs_send_35 (by decide) ?_
        exact v_iret hQ C rfl d_Bs_send_37 (by omega) (by omega) (by rw [G1.sendR, if_neg c_4, if_neg (by omega), if_neg c_32]; exact ⟨rfl, h⟩)
    · refine V.eqst (st' := [.int (-3)]) rfl (V.cs (k' := 0) (n' := 0) rfl rfl ?_)
      refine v_istore_n C (i := 1) (lv' := [(1, .int (-3)), (0, .ref (ad 0))]) d_Bs_send_14 rfl (by decide) rfl ?_
      refine v_iload_n C (i := 1) d_Bs_send_15 rfl rfl ?_
      refine v_bipush C (v := (-3)) d_Bs_send_16 (by decide) ?_
      refine v_icmp_ne C 24 d_Bs_send_18 (by decide) (fun c_18 => absurd (rfl) c_18) (fun c_18 => ?_)
      refine v_bipush C (v := (-3)) d_Bs_send_21 (by decide) ?_
      exact v_iret hQ C rfl d_Bs_send_23 (by omega) (by omega) (by rw [G1.sendR, if_neg c_4, if_pos heq]; exact ⟨rfl, h⟩)
  · refine v_bipush C (v := (-4)) d_Bs_send_7 (by decide) ?_
    exact v_iret hQ C rfl d_Bs_send_9 (by omega) (by omega) (by rw [G1.sendR, if_pos c_4]; exact ⟨rfl, h⟩)
set_option maxHeartbeats 4000000 in
set_option maxRecDepth 100000 in
theorem ct_Bs_drop {D : va_G} {l : Launch} {cI cZ cR cM : ClassId} {M : Mem} {ad : Nat → Nat} {G : G1} (h : R1 cI cR cM M ad G) (hn : G.N 0 ≤ 120) (hrl : ∀ j, j < G.N 0 → rlen G j ≤ 200) : Ct TT D cls (tyL cI cZ cR cM) l y_Bs_drop b_Bs_drop 1 (some .int) 3 64 0 0 [.ref (ad 0)] M (fun rv M' => (G.I 1 = 0 ∧ rv = some (.int (-4)) ∧ R1 cI cR cM M' ad G) ∨ (¬ G.I 1 = 0 ∧ rv = some (.int 0) ∧ ∃ rr, (∀ j, G.T 7 j ≠ 1 → rr j = G.R j) ∧ R1 cI cR cM M' ad (G.bk rr))) := by
  refine ct_of "BlockTargetSession" rfl (by decide) (Nat.le_of_ble_eq_true rfl) ?_
  intro Z hl hD hnm hQ C
  subst hl
  subst hD
  show V cls 1 (rmOf 3 64 0 0) Z 0 [(0, .ref (ad 0))] [] M 0 0
  refine v_aload_n C (i := 0) d_Bs_drop_0 rfl rfl ?_
  refine v_get C (v := .int (G.I 1)) in_Bs h.o cl_Bs 6 (by decide) w_109 rfl rfl d_Bs_drop_1 ?_
  refine v_if_ne C 10 d_Bs_drop_4 (by decide) (fun c_4 => ?_) (fun c_4 => ?_)
  · refine v_aload_n C (i := 0) d_Bs_drop_10 rfl rfl ?_
    refine v_callV C (As := []) (rest := []) h.o cl_Bs rfl w_223 wp_5 (ct_Bs_breakSession h hn hrl) (Nat.le_of_ble_eq_true rfl) (Nat.le_of_ble_eq_true rfl) w_224 w_1 hy_Bs_breakSession w_221 rfl (Nat.le_of_ble_eq_true rfl) ⟨by decide, by decide⟩ d_Bs_drop_11 (fun rv M hp => ?_)
    obtain ⟨rfl, rr, hrr, hw⟩ := hp
    refine V.eqst (st' := []) rfl (V.cs (k' := 0) (n' := 0) rfl rfl ?_)
    refine v_iconst C (v := 0) d_Bs_drop_14 (by decide) ?_
    exact v_iret hQ C rfl d_Bs_drop_15 (by omega) (by omega) (Or.inr ⟨c_4, rfl, rr, hrr, hw⟩)
  · refine v_bipush C (v := (-4)) d_Bs_drop_7 (by decide) ?_
    exact v_iret hQ C rfl d_Bs_drop_9 (by omega) (by omega) (Or.inl ⟨c_4, rfl, h⟩)
set_option maxHeartbeats 4000000 in
set_option maxRecDepth 100000 in
theorem ct_Bs_crash {D : va_G} {l : Launch} {cI cZ cR cM : ClassId} {M : Mem} {ad : Nat → Nat} {G : G1} (h : R1 cI cR cM M ad G) (hn : G.N 0 ≤ 120) (hrl : ∀ j, j < G.N 0 → rlen G j ≤ 200) : Ct TT D cls (tyL cI cZ cR cM) l y_Bs_crash b_Bs_crash 1 (some .int) 3 64 0 0 [.ref (ad 0)] M (fun rv M' => rv = some (.int 0) ∧ ((G.I 1 = 0 ∧ R1 cI cR cM M' ad (G.sN 1 0)) ∨ (¬ G.I 1 = 0 ∧ ∃ rr, (∀ j, G.T 7 j ≠ 1 → rr j = G.R j) ∧ R1 cI cR cM M' ad ((G.bk rr).sN 1 0)))) := by
  refine ct_of "BlockTargetSession" rfl (by decide) (Nat.le_of_ble_eq_true rfl) ?_
  intro Z hl hD hnm hQ C
  subst hl
  subst hD
  show V cls 1 (rmOf 3 64 0 0) Z 0 [(0, .ref (ad 0))] [] M 0 0
  refine v_aload_n C (i := 0) d_Bs_crash_0 rfl rfl ?_
  refine v_get C (v := .int (G.I 1)) in_Bs h.o cl_Bs 6 (by decide) w_109 rfl rfl d_Bs_crash_1 ?_
  refine v_if_eq C 11 d_Bs_crash_4 (by decide) (fun c_4 => ?_) (fun c_4 => ?_)
  · refine v_aload_n C (i := 0) d_Bs_crash_11 rfl rfl ?_
    refine v_get C (v := .ref (ad 1)) in_Bs h.o cl_Bs 1 (by decide) w_104 rfl rfl d_Bs_crash_12 ?_
    refine v_callV C (As := []) (rest := []) h.st cl_St rfl w_309 w_310 (ct_St_loseCache h) (Nat.le_of_ble_eq_true rfl) (Nat.le_of_ble_eq_true rfl) w_311 w_5 hy_St_loseCache w_308 rfl (Nat.le_of_ble_eq_true rfl) ⟨by decide, by decide⟩ d_Bs_crash_15 (fun rv M hp => ?_)
    obtain ⟨rfl, hz⟩ := hp
    refine V.eqst (st' := []) rfl (V.cs (k' := 0) (n' := 0) rfl rfl ?_)
    refine v_iconst C (v := 0) d_Bs_crash_18 (by decide) ?_
    exact v_iret hQ C rfl d_Bs_crash_19 (by omega) (by omega) ⟨rfl, Or.inl ⟨c_4, hz⟩⟩
  · refine v_aload_n C (i := 0) d_Bs_crash_7 rfl rfl ?_
    refine v_callV C (As := []) (rest := []) h.o cl_Bs rfl w_223 wp_5 (ct_Bs_breakSession h hn hrl) (Nat.le_of_ble_eq_true rfl) (Nat.le_of_ble_eq_true rfl) w_224 w_1 hy_Bs_breakSession w_221 rfl (Nat.le_of_ble_eq_true rfl) ⟨by decide, by decide⟩ d_Bs_crash_8 (fun rv M hp => ?_)
    obtain ⟨rfl, rr, hrr, hw⟩ := hp
    refine V.eqst (st' := []) rfl (V.cs (k' := 0) (n' := 0) rfl rfl ?_)
    refine v_aload_n C (i := 0) d_Bs_crash_11 rfl rfl ?_
    refine v_get C (v := .ref (ad 1)) in_Bs hw.o cl_Bs 1 (by decide) w_104 rfl rfl d_Bs_crash_12 ?_
    refine v_callV C (As := []) (rest := []) hw.st cl_St rfl w_309 w_310 (ct_St_loseCache hw) (Nat.le_of_ble_eq_true rfl) (Nat.le_of_ble_eq_true rfl) w_311 w_5 hy_St_loseCache w_308 rfl (Nat.le_of_ble_eq_true rfl) ⟨by decide, by decide⟩ d_Bs_crash_15 (fun rv M hp => ?_)
    obtain ⟨rfl, hz⟩ := hp
    refine V.eqst (st' := []) rfl (V.cs (k' := 0) (n' := 0) rfl rfl ?_)
    refine v_iconst C (v := 0) d_Bs_crash_18 (by decide) ?_
    exact v_iret hQ C rfl d_Bs_crash_19 (by omega) (by omega) ⟨rfl, Or.inr ⟨c_4, rr, hrr, hz⟩⟩
set_option maxHeartbeats 4000000 in
set_option maxRecDepth 100000 in
theorem ct_Bs_login {D : va_G} {l : Launch} {cI cZ cR cM : ClassId} {M : Mem} {ad : Nat → Nat} {G : G1} (h : R1 cI cR cM M ad G) (hn : G.N 0 ≤ 120) : Ct TT D cls (tyL cI cZ cR cM) l y_Bs_login b_Bs_login 1 (some .int) 1 23 0 0 [.ref (ad 0)] M (fun rv M' => (¬ G.I 1 = 0 ∧ rv = some (.int (-1)) ∧ R1 cI cR cM M' ad G) ∨ (G.I 1 = 0 ∧ rv = some (.int (nI (cnt (G.T 7) 0 (G.N 0)))) ∧ R1 cI cR cM M' ad G.bg)) := by
  refine ct_of "BlockTargetSession" rfl (by decide) (Nat.le_of_ble_eq_true rfl) ?_
  intro Z hl hD hnm hQ C
  subst hl
  subst hD
  show V cls 1 (rmOf 1 23 0 0) Z 0 [(0, .ref (ad 0))] [] M 0 0
  refine v_aload_n C (i := 0) d_Bs_login_0 rfl rfl ?_
  refine v_get C (v := .int (G.I 1)) in_Bs h.o cl_Bs 6 (by decide) w_109 rfl rfl d_Bs_login_1 ?_
  refine v_if_eq C 9 d_Bs_login_4 (by decide) (fun c_4 => ?_) (fun c_4 => ?_)
  · refine v_aload_n C (i := 0) d_Bs_login_9 rfl rfl ?_
    refine v_callV C (As := []) (rest := []) h.o cl_Bs rfl w_101 wp_0 (ct_Bs_beginSession h) (Nat.le_of_ble_eq_true rfl) (Nat.le_of_ble_eq_true rfl) w_102 w_1 hy_Bs_beginSession w_99 rfl (Nat.le_of_ble_eq_true rfl) ⟨by decide, by decide⟩ d_Bs_login_10 (fun rv M hp => ?_)
    obtain ⟨rfl, hw⟩ := hp
    refine V.eqst (st' := []) rfl (V.cs (k' := 0) (n' := 0) rfl rfl ?_)
    refine v_aload_n C (i := 0) d_Bs_login_13 rfl rfl ?_
    refine v_iconst C (v := 0) d_Bs_login_14 (by decide) ?_
    refine v_callV C (As := [.int 0]) (rest := []) hw.o cl_Bs rfl w_318 wp_15 (ct_Bs_requestsIn hw hn 0) (Nat.le_of_ble_eq_true rfl) (Nat.le_of_ble_eq_true rfl) w_319 w_1 hy_Bs_requestsIn w_316 rfl (Nat.le_of_ble_eq_true rfl) ⟨by decide, by decide⟩ d_Bs_login_15 (fun rv M hp => ?_)
    obtain ⟨rfl, rfl⟩ := hp
    refine V.eqst (st' := [.int (nI (cnt (G.bg.T 7) 0 (G.bg.N 0)))]) rfl (V.cs (k' := 0) (n' := 0) rfl rfl ?_)
    exact v_iret hQ C rfl d_Bs_login_18 (by omega) (by omega) (Or.inr ⟨c_4, rfl, hw⟩)
  · refine v_iconst C (v := (-1)) d_Bs_login_7 (by decide) ?_
    exact v_iret hQ C rfl d_Bs_login_8 (by omega) (by omega) (Or.inl ⟨c_4, rfl, h⟩)
set_option maxHeartbeats 4000000 in
set_option maxRecDepth 100000 in
theorem ct_Bs_flush {D : va_G} {l : Launch} {cI cZ cR cM : ClassId} {M : Mem} {ad : Nat → Nat} {G : G1} (h : R1 cI cR cM M ad G) (hc : cOK G) : Ct TT D cls (tyL cI cZ cR cM) l y_Bs_flush b_Bs_flush 1 (some .int) 1 22 0 0 [.ref (ad 0)] M (fun rv M' => ∃ z : Int32, rv = some (.int z) ∧ ((G.N 1 = 0 ∧ z = -3 ∧ R1 cI cR cM M' ad G.wb) ∨ (0 < G.N 1 ∧ z = G.T 1 0 ∧ R1 cI cR cM M' ad G.wb))) := by
  refine ct_of "BlockTargetSession" rfl (by decide) (Nat.le_of_ble_eq_true rfl) ?_
  intro Z hl hD hnm hQ C
  subst hl
  subst hD
  show V cls 1 (rmOf 1 22 0 0) Z 0 [(0, .ref (ad 0))] [] M 0 0
  refine v_aload_n C (i := 0) d_Bs_flush_0 rfl rfl ?_
  refine v_get C (v := .ref (ad 1)) in_Bs h.o cl_Bs 1 (by decide) w_104 rfl rfl d_Bs_flush_1 ?_
  refine v_callV C (As := []) (rest := []) h.st cl_St rfl w_261 w_262 (ct_St_writeBackFirst h hc) (Nat.le_of_ble_eq_true rfl) (Nat.le_of_ble_eq_true rfl) w_263 w_5 hy_St_writeBackFirst w_324 rfl (Nat.le_of_ble_eq_true rfl) ⟨by decide, by decide⟩ d_Bs_flush_4 (fun rv M hp => ?_)
  obtain ⟨z, rfl, hz⟩ : ∃ z : Int32, rv = some (.int z) ∧ ((G.N 1 = 0 ∧ z = -3 ∧ R1 cI cR cM M ad G.wb) ∨ (0 < G.N 1 ∧ z = G.T 1 0 ∧ R1 cI cR cM M ad G.wb)) := by
    rcases hp with ⟨a, e, q⟩ | ⟨a, e, q⟩
    · exact ⟨_, e, Or.inl ⟨a, rfl, q⟩⟩
    · exact ⟨_, e, Or.inr ⟨a, rfl, q⟩⟩
  refine V.eqst (st' := [.int z]) rfl (V.cs (k' := 0) (n' := 0) rfl rfl ?_)
  exact v_iret hQ C rfl d_Bs_flush_7 (by omega) (by omega) ⟨z, rfl, hz⟩
set_option maxHeartbeats 4000000 in
set_option maxRecDepth 100000 in
theorem ct_Bs_state {D : va_G} {l : Launch} {cI cZ cR cM : ClassId} {M : Mem} {ad : Nat → Nat} {G : G1} (h : R1 cI cR cM M ad G) (hn : G.N 0 ≤ 120) (x : Int32) : Ct TT D cls (tyL cI cZ cR cM) l y_Bs_state b_Bs_state 3 (some .int) 1 21 0 0 [.ref (ad 0), .int x] M (fun rv M' => M' = M ∧ (((x < 0 ∨ nI (G.N 0) ≤ x) ∧ rv = some (.int (-1))) ∨ ∃ q, q < G.N 0 ∧ x = nI q ∧ rv = some (.int (G.T 7 q)))) := by
  refine ct_of "BlockTargetSession" rfl (by decide) (Nat.le_of_ble_eq_true rfl) ?_
  intro Z hl hD hnm hQ C
  subst hl
  subst hD
  show V cls 3 (rmOf 1 21 0 0) Z 0 [(0, .ref (ad 0)), (1, .int x)] [] M 0 0
  refine v_aload_n C (i := 0) d_Bs_state_0 rfl rfl ?_
  refine v_iload_n C (i := 1) d_Bs_state_1 rfl rfl ?_
  refine v_callV C (As := [.int x]) (rest := []) h.o cl_Bs rfl w_242 wp_7 (ct_Bs_requestAt h hn x) (Nat.le_of_ble_eq_true rfl) (Nat.le_of_ble_eq_true rfl) w_243 w_1 hy_Bs_requestAt w_240 rfl (Nat.le_of_ble_eq_true rfl) ⟨by decide, by decide⟩ d_Bs_state_2 (fun rv M hp => ?_)
  obtain ⟨rfl, hp⟩ := hp
  rcases hp with ⟨hx, rfl⟩ | ⟨q, hqn, rfl, rfl⟩
  · refine V.eqst (st' := [.null]) rfl (V.cs (k' := 0) (n' := 0) rfl rfl ?_)
    refine v_astore_nN C (i := 2) (lv' := [(2, .null), (0, .ref (ad 0)), (1, .int x)]) d_Bs_state_5 rfl (by decide) rfl ?_
    refine v_aload_nN C (i := 2) d_Bs_state_6 rfl rfl ?_
    refine v_ifnonnullN C d_Bs_state_7 ?_
    refine v_iconst C (v := (-1)) d_Bs_state_10 (by decide) ?_
    refine v_goto C 18 d_Bs_state_11 (by decide) ?_
    exact v_iret hQ C rfl d_Bs_state_18 (by omega) (by omega) ⟨rfl, Or.inl ⟨hx, rfl⟩⟩
  · refine V.eqst (st' := [.ref (ad (30 + 2 * q))]) rfl (V.cs (k' := 0) (n' := 0) rfl rfl ?_)
    refine v_astore_n C (i := 2) (lv' := [(2, .ref (ad (30 + 2 * q))), (0, .ref (ad 0)), (1, .int (nI q))]) d_Bs_state_5 rfl (by decide) rfl ?_
    refine v_aload_n C (i := 2) d_Bs_state_6 rfl rfl ?_
    refine v_ifnonnull C 14 d_Bs_state_7 (by decide) ?_
    refine v_aload_n C (i := 2) d_Bs_state_14 rfl rfl ?_
    refine v_get C (v := .int ((G.T 7) q)) in_Rq (h.rq q hqn) cl_Rq 5 (by decide) w_167 rfl rfl d_Bs_state_15 ?_
    exact v_iret hQ C rfl d_Bs_state_18 (by omega) (by omega) ⟨rfl, Or.inr ⟨q, hqn, rfl, rfl⟩⟩
set_option maxHeartbeats 4000000 in
set_option maxRecDepth 100000 in
theorem ct_Bs_result {D : va_G} {l : Launch} {cI cZ cR cM : ClassId} {M : Mem} {ad : Nat → Nat} {G : G1} (h : R1 cI cR cM M ad G) (hn : G.N 0 ≤ 120) (hr : ∀ q, q < G.N 0 → rOK G q) (x y : Int32) : Ct TT D cls (tyL cI cZ cR cM) l y_Bs_result b_Bs_result 4 (some .long) 1 21 0 0 [.ref (ad 0), .int x, .int y] M (fun rv M' => M' = M ∧ (((x < 0 ∨ nI (G.N 0) ≤ x) ∧ rv = some (.long (-1000000000000))) ∨ ∃ q, q < G.N 0 ∧ x = nI q ∧ (((¬ G.T 3 q = 1 ∨ ¬ G.T 7 q = 2) ∧ rv = some (.long (-1000000000000))) ∨ (G.T 3 q = 1 ∧ G.T 7 q = 2 ∧ (((y < 0 ∨ ¬ y < G.T 5 q) ∧ rv = some (.long (-1000000000000))) ∨ ∃ k, k < cN G q ∧ y = nI k ∧ rv = some (.long (G.R q k).toInt64)))))) := by
  refine ct_of "BlockTargetSession" rfl (by decide) (Nat.le_of_ble_eq_true rfl) ?_
  intro Z hl hD hnm hQ C
  subst hl
  subst hD
  show V cls 4 (rmOf 1 21 0 0) Z 0 [(0, .ref (ad 0)), (1, .int x), (2, .int y)] [] M 0 0
  refine v_aload_n C (i := 0) d_Bs_result_0 rfl rfl ?_
  refine v_iload_n C (i := 1) d_Bs_result_1 rfl rfl ?_
  refine v_callV C (As := [.int x]) (rest := []) h.o cl_Bs rfl w_242 wp_7 (ct_Bs_requestAt h hn x) (Nat.le_of_ble_eq_true rfl) (Nat.le_of_ble_eq_true rfl) w_243 w_1 hy_Bs_requestAt w_240 rfl (Nat.le_of_ble_eq_true rfl) ⟨by decide, by decide⟩ d_Bs_result_2 (fun rv M hp => ?_)
  obtain ⟨rfl, hp⟩ := hp
  rcases hp with ⟨hx, rfl⟩ | ⟨q, hqn, rfl, rfl⟩
  · refine V.eqst (st' := [.null]) rfl (V.cs (k' := 0) (n' := 0) rfl rfl ?_)
    refine v_astore_nN C (i := 3) (lv' := [(3, .null), (0, .ref (ad 0)), (1, .int x), (2, .int y)]) d_Bs_result_5 rfl (by decide) rfl ?_
    refine v_aload_nN C (i := 3) d_Bs_result_6 rfl rfl ?_
    refine v_ifnullN C 26 d_Bs_result_7 (by decide) ?_
    refine v_ldc2 C d_Bs_result_26 w_333 ?_
    exact v_lret hQ C rfl d_Bs_result_29 (by omega) (by omega) ⟨rfl, Or.inl ⟨hx, rfl⟩⟩
  · refine V.eqst (st' := [.ref (ad (30 + 2 * q))]) rfl (V.cs (k' := 0) (n' := 0) rfl rfl ?_)
    refine v_astore_n C (i := 3) (lv' := [(3, .ref (ad (30 + 2 * q))), (0, .ref (ad 0)), (1, .int (nI q)), (2, .int y)]) d_Bs_result_5 rfl (by decide) rfl ?_
    refine v_aload_n C (i := 3) d_Bs_result_6 rfl rfl ?_
    refine v_ifnull C d_Bs_result_7 ?_
    refine v_aload_n C (i := 3) d_Bs_result_10 rfl rfl ?_
    refine v_get C (v := .int ((G.T 3) q)) in_Rq (h.rq q hqn) cl_Rq 0 (by decide) w_157 rfl rfl d_Bs_result_11 ?_
    refine v_iconst C (v := 1) d_Bs_result_14 (by decide) ?_
    refine v_icmp_ne C 26 d_Bs_result_15 (by decide) (fun c_15 => ?_) (fun c_15 => ?_)
    · refine v_ldc2 C d_Bs_result_26 w_333 ?_
      exact v_lret hQ C rfl d_Bs_result_29 (by omega) (by omega) ⟨rfl, Or.inr ⟨q, hqn, rfl, Or.inl ⟨Or.inl c_15, rfl⟩⟩⟩
    · refine v_aload_n C (i := 3) d_Bs_result_18 rfl rfl ?_
      refine v_get C (v := .int ((G.T 7) q)) in_Rq (h.rq q hqn) cl_Rq 5 (by decide) w_167 rfl rfl d_Bs_result_19 ?_
      refine v_iconst C (v := 2) d_Bs_result_22 (by decide) ?_
      refine v_icmp_eq C 30 d_Bs_result_23 (by decide) (fun c_23 => ?_) (fun c_23 => ?_)
      · refine v_iload_n C (i := 2) d_Bs_result_30 rfl rfl ?_
        refine v_if_lt C 42 d_Bs_result_31 (by decide) (fun c_31 => ?_) (fun c_31 => ?_)
        · refine v_ldc2 C d_Bs_result_42 w_333 ?_
          exact v_lret hQ C rfl d_Bs_result_45 (by omega) (by omega) ⟨rfl, Or.inr ⟨q, hqn, rfl, Or.inr ⟨c_15, c_23, Or.inl ⟨Or.inl c_31, rfl⟩⟩⟩⟩
        · refine v_iload_n C (i := 2) d_Bs_result_34 rfl rfl ?_
          refine v_aload_n C (i := 3) d_Bs_result_35 rfl rfl ?_
          refine v_get C (v := .int ((G.T 5) q)) in_Rq (h.rq q hqn) cl_Rq 2 (by decide) w_161 rfl rfl d_Bs_result_36 ?_
          refine v_icmp_lt C 46 d_Bs_result_39 (by decide) (fun c_39 => ?_) (fun c_39 => ?_)
          · have hr9 := hr q hqn
            obtain ⟨k, hk, rfl⟩ : ∃ k : Nat, k < cN G q ∧ y = nI k := by
              rcases pk_ix y (n := cN G q) (by have := hr9.f.2.2.2; omega) with z | z | z
              · exact absurd z c_31
              · exact absurd c_39 (by rw [hr9.f.2.1]; exact fun w => absurd z (by have w2 := Int32.lt_iff_toInt_lt.mp w; intro z; have z2 := Int32.le_iff_toInt_le.mp z; omega))
              · exact z
            have hrl9 : rlen G q = cN G q := by unfold rlen cN; rw [if_pos c_15]
            refine v_aload_n C (i := 3) d_Bs_result_46 rfl rfl ?_
            refine v_get C (v := .ref (ad (31 + 2 * q))) in_Rq (h.rq q hqn) cl_Rq 4 (by decide) w_165 rfl rfl d_Bs_result_47 ?_
            refine v_iload_n C (i := 2) d_Bs_result_50 rfl rfl ?_
            refine v_iald C (N := rlen G q) (f := G.R q) 0 (h.rr q hqn) rfl (pk_in k (rlen G q) (by omega) (hN := by have := hr9.f.2.2.2; omega)) d_Bs_result_51 ?_
            refine V.eqst (st' := [.int ((G.R q) k)]) (by rw [show Int32.toNatClampNeg (nI k) = k from pk_cl _ (hx := rfl) (h := by have := hr9.f.2.2.2; omega)]) ?_
            refine v_i2l C d_Bs_result_52 rfl ?_
            exact v_lret hQ C rfl d_Bs_result_53 (by omega) (by omega) ⟨rfl, Or.inr ⟨q, hqn, rfl, Or.inr ⟨c_15, c_23, Or.inr ⟨k, hk, rfl, rfl⟩⟩⟩⟩
          · refine v_ldc2 C d_Bs_result_42 w_333 ?_
            exact v_lret hQ C rfl d_Bs_result_45 (by omega) (by omega) ⟨rfl, Or.inr ⟨q, hqn, rfl, Or.inr ⟨c_15, c_23, Or.inl ⟨Or.inr c_39, rfl⟩⟩⟩⟩
      · refine v_ldc2 C d_Bs_result_26 w_333 ?_
        exact v_lret hQ C rfl d_Bs_result_29 (by omega) (by omega) ⟨rfl, Or.inr ⟨q, hqn, rfl, Or.inl ⟨Or.inr c_23, rfl⟩⟩⟩
set_option maxHeartbeats 4000000 in
set_option maxRecDepth 100000 in
theorem ct_Bs_present {D : va_G} {l : Launch} {cI cZ cR cM : ClassId} {M : Mem} {ad : Nat → Nat} {G : G1} (h : R1 cI cR cM M ad G) (hc : cOK G) (x : Int32) : Ct TT D cls (tyL cI cZ cR cM) l y_Bs_present b_Bs_present 2 (some .long) 2 44 0 0 [.ref (ad 0), .int x] M (fun rv M' => M' = M ∧ ((∃ b, b < 16 ∧ x = nI b ∧ rv = some (.long (G.pv b).toInt64)) ∨ (¬ isB x ∧ rv = some (.long (-1000000000000))))) := by
  refine ct_of "BlockTargetSession" rfl (by decide) (Nat.le_of_ble_eq_true rfl) ?_
  intro Z hl hD hnm hQ C
  subst hl
  subst hD
  show V cls 2 (rmOf 2 44 0 0) Z 0 [(0, .ref (ad 0)), (1, .int x)] [] M 0 0
  refine v_iload_n C (i := 1) d_Bs_present_0 rfl rfl ?_
  refine v_callS C (As := [.int x]) (rest := []) w_145 (ct_Bs_isBlock x) (Nat.le_of_ble_eq_true rfl) (Nat.le_of_ble_eq_true rfl) w_146 w_1 hy_Bs_isBlock w_144 rfl (Nat.le_of_ble_eq_true rfl) ⟨by decide, by decide⟩ d_Bs_present_1 (fun rv M hp => ?_)
  rcases hp with ⟨hb, rfl, rfl⟩ | ⟨hb, rfl, rfl⟩
  · refine V.eqst (st' := [.int 1]) rfl (V.cs (k' := 0) (n' := 0) rfl rfl ?_)
    obtain ⟨b, hb16, rfl⟩ : ∃ b : Nat, b < 16 ∧ x = nI b := by
      rcases pk_ix x (n := 16) (by decide) with z | z | z
      · exact absurd z hb.1
      · exact absurd z hb.2
      · exact z
    refine v_if_eq C 19 d_Bs_present_4 (by decide) (fun c_4 => absurd c_4 (by decide)) (fun c_4 => ?_)
    refine v_aload_n C (i := 0) d_Bs_present_7 rfl rfl ?_
    refine v_get C (v := .ref (ad 1)) in_Bs h.o cl_Bs 1 (by decide) w_104 rfl rfl d_Bs_present_8 ?_
    refine v_iload_n C (i := 1) d_Bs_present_11 rfl rfl ?_
    refine v_callV C (As := [.int (nI b)]) (rest := []) h.st cl_St rfl w_273 w_274 (ct_St_presentInt h hc b hb16) (Nat.le_of_ble_eq_true rfl) (Nat.le_of_ble_eq_true rfl) w_275 w_5 hy_St_presentInt w_272 rfl (Nat.le_of_ble_eq_true rfl) ⟨by decide, by decide⟩ d_Bs_present_12 (fun rv M hp => ?_)
    obtain ⟨rfl, rfl⟩ := hp
    refine V.eqst (st' := [.int (G.pv b)]) rfl (V.cs (k' := 0) (n' := 0) rfl rfl ?_)
    refine v_i2l C d_Bs_present_15 rfl ?_
    refine v_goto C 22 d_Bs_present_16 (by decide) ?_
    exact v_lret hQ C rfl d_Bs_present_22 (by omega) (by omega) ⟨rfl, Or.inl ⟨b, hb16, rfl, rfl⟩⟩
  · refine V.eqst (st' := [.int 0]) rfl (V.cs (k' := 0) (n' := 0) rfl rfl ?_)
    refine v_if_eq C 19 d_Bs_present_4 (by decide) (fun c_4 => ?_) (fun c_4 => absurd (rfl) c_4)
    refine v_ldc2 C d_Bs_present_19 w_333 ?_
    exact v_lret hQ C rfl d_Bs_present_22 (by omega) (by omega) ⟨rfl, Or.inr ⟨hb, rfl⟩⟩
set_option maxHeartbeats 4000000 in
set_option maxRecDepth 100000 in
theorem ct_Bs_disk {D : va_G} {l : Launch} {cI cZ cR cM : ClassId} {M : Mem} {ad : Nat → Nat} {G : G1} (h : R1 cI cR cM M ad G) (hc : cOK G) (x : Int32) : Ct TT D cls (tyL cI cZ cR cM) l y_Bs_disk b_Bs_disk 2 (some .long) 1 20 0 0 [.ref (ad 0), .int x] M (fun rv M' => M' = M ∧ ((∃ b, b < 16 ∧ x = nI b ∧ rv = some (.long (G.T 0 b).toInt64)) ∨ (¬ isB x ∧ rv = some (.long (-1000000000000))))) := by
  refine ct_of "BlockTargetSession" rfl (by decide) (Nat.le_of_ble_eq_true rfl) ?_
  intro Z hl hD hnm hQ C
  subst hl
  subst hD
  show V cls 2 (rmOf 1 20 0 0) Z 0 [(0, .ref (ad 0)), (1, .int x)] [] M 0 0
  refine v_iload_n C (i := 1) d_Bs_disk_0 rfl rfl ?_
  refine v_callS C (As := [.int x]) (rest := []) w_145 (ct_Bs_isBlock x) (Nat.le_of_ble_eq_true rfl) (Nat.le_of_ble_eq_true rfl) w_146 w_1 hy_Bs_isBlock w_144 rfl (Nat.le_of_ble_eq_true rfl) ⟨by decide, by decide⟩ d_Bs_disk_1 (fun rv M hp => ?_)
  rcases hp with ⟨hb, rfl, rfl⟩ | ⟨hb, rfl, rfl⟩
  · refine V.eqst (st' := [.int 1]) rfl (V.cs (k' := 0) (n' := 0) rfl rfl ?_)
    obtain ⟨b, hb16, rfl⟩ : ∃ b : Nat, b < 16 ∧ x = nI b := by
      rcases pk_ix x (n := 16) (by decide) with z | z | z
      · exact absurd z hb.1
      · exact absurd z hb.2
      · exact z
    refine v_if_eq C 20 d_Bs_disk_4 (by decide) (fun c_4 => absurd c_4 (by decide)) (fun c_4 => ?_)
    refine v_aload_n C (i := 0) d_Bs_disk_7 rfl rfl ?_
    refine v_get C (v := .ref (ad 1)) in_Bs h.o cl_Bs 1 (by decide) w_104 rfl rfl d_Bs_disk_8 ?_
    refine v_get C (v := .ref (ad 2)) in_St h.st cl_St 1 (by decide) w_82 rfl rfl d_Bs_disk_11 ?_
    refine v_iload_n C (i := 1) d_Bs_disk_14 rfl rfl ?_
    refine v_iald C (N := 16) (f := G.T 0) 0 h.dk rfl (pk_in b 16 hb16) d_Bs_disk_15 ?_
    refine V.eqst (st' := [.int ((G.T 0) b)]) (by rw [show Int32.toNatClampNeg (nI b) = b from pk_cl _ (hx := rfl)]) ?_
    refine v_i2l C d_Bs_disk_16 rfl ?_
    refine v_goto C 23 d_Bs_disk_17 (by decide) ?_
    exact v_lret hQ C rfl d_Bs_disk_23 (by omega) (by omega) ⟨rfl, Or.inl ⟨b, hb16, rfl, rfl⟩⟩
  · refine V.eqst (st' := [.int 0]) rfl (V.cs (k' := 0) (n' := 0) rfl rfl ?_)
    refine v_if_eq C 20 d_Bs_disk_4 (by decide) (fun c_4 => ?_) (fun c_4 => absurd (rfl) c_4)
    refine v_ldc2 C d_Bs_disk_20 w_333 ?_
    exact v_lret hQ C rfl d_Bs_disk_23 (by omega) (by omega) ⟨rfl, Or.inr ⟨hb, rfl⟩⟩
set_option maxHeartbeats 4000000 in
set_option maxRecDepth 100000 in
theorem ct_Bs_cached {D : va_G} {l : Launch} {cI cZ cR cM : ClassId} {M : Mem} {ad : Nat → Nat} {G : G1} (h : R1 cI cR cM M ad G) (hc : cOK G) (x : Int32) : Ct TT D cls (tyL cI cZ cR cM) l y_Bs_cached b_Bs_cached 2 (some .int) 1 21 0 0 [.ref (ad 0), .int x] M (fun rv M' => M' = M ∧ ∃ z : Int32, rv = some (.int z) ∧ (((x < 0 ∨ nI (G.N 1) ≤ x) ∧ z = -3) ∨ ∃ j, j < G.N 1 ∧ x = nI j ∧ z = G.T 1 j)) := by
  refine ct_of "BlockTargetSession" rfl (by decide) (Nat.le_of_ble_eq_true rfl) ?_
  intro Z hl hD hnm hQ C
  subst hl
  subst hD
  show V cls 2 (rmOf 1 21 0 0) Z 0 [(0, .ref (ad 0)), (1, .int x)] [] M 0 0
  refine v_aload_n C (i := 0) d_Bs_cached_0 rfl rfl ?_
  refine v_get C (v := .ref (ad 1)) in_Bs h.o cl_Bs 1 (by decide) w_104 rfl rfl d_Bs_cached_1 ?_
  refine v_iload_n C (i := 1) d_Bs_cached_4 rfl rfl ?_
  refine v_callV C (As := [.int x]) (rest := []) h.st cl_St rfl w_347 w_348 (ct_St_blockAt h hc x) (Nat.le_of_ble_eq_true rfl) (Nat.le_of_ble_eq_true rfl) w_349 w_5 hy_St_blockAt w_346 rfl (Nat.le_of_ble_eq_true rfl) ⟨by decide, by decide⟩ d_Bs_cached_5 (fun rv M hp => ?_)
  obtain ⟨rfl, hp⟩ := hp
  obtain ⟨z, rfl, hz⟩ : ∃ z : Int32, rv = some (.int z) ∧ (((x < 0 ∨ nI (G.N 1) ≤ x) ∧ z = -3) ∨ ∃ j, j < G.N 1 ∧ x = nI j ∧ z = G.T 1 j) := by
    rcases hp with ⟨a, e⟩ | ⟨j, a, b, e⟩
    · exact ⟨_, e, Or.inl ⟨a, rfl⟩⟩
    · exact ⟨_, e, Or.inr ⟨j, a, b, rfl⟩⟩
  refine V.eqst (st' := [.int z]) rfl (V.cs (k' := 0) (n' := 0) rfl rfl ?_)
  exact v_iret hQ C rfl d_Bs_cached_8 (by omega) (by omega) ⟨rfl, z, rfl, hz⟩
set_option maxHeartbeats 4000000 in
set_option maxRecDepth 100000 in
theorem ct_Bs_waiting {D : va_G} {l : Launch} {cI cZ cR cM : ClassId} {M : Mem} {ad : Nat → Nat} {G : G1} (h : R1 cI cR cM M ad G) (u : Int32) : Ct TT D cls (tyL cI cZ cR cM) l y_Bs_waiting b_Bs_waiting 2 (some .int) 1 21 0 0 [.ref (ad 0), .int u] M (fun rv M' => M' = M ∧ rv = some (.int (nI (G.N (2 + lx u))))) := by
  refine ct_of "BlockTargetSession" rfl (by decide) (Nat.le_of_ble_eq_true rfl) ?_
  intro Z hl hD hnm hQ C
  subst hl
  subst hD
  show V cls 2 (rmOf 1 21 0 0) Z 0 [(0, .ref (ad 0)), (1, .int u)] [] M 0 0
  refine v_aload_n C (i := 0) d_Bs_waiting_0 rfl rfl ?_
  refine v_iload_n C (i := 1) d_Bs_waiting_1 rfl rfl ?_
  refine v_callV C (As := [.int u]) (rest := []) h.o cl_Bs rfl w_215 wp_4 (ct_Bs_lineOf h u) (Nat.le_of_ble_eq_true rfl) (Nat.le_of_ble_eq_true rfl) w_216 w_1 hy_Bs_lineOf w_213 rfl (Nat.le_of_ble_eq_true rfl) ⟨by decide, by decide⟩ d_Bs_waiting_2 (fun rv M hp => ?_)
  obtain ⟨rfl, rfl⟩ := hp
  refine V.eqst (st' := [.ref (ad (6 + 2 * lx u))]) rfl (V.cs (k' := 0) (n' := 0) rfl rfl ?_)
  refine v_get C (v := .int (nI (G.N (2 + lx u)))) in_Ln (h.ln (lx u) (lx_lt u)) cl_Ln 1 (by decide) w_59 rfl rfl d_Bs_waiting_5 ?_
  exact v_iret hQ C rfl d_Bs_waiting_8 (by omega) (by omega) ⟨rfl, rfl⟩
set_option maxHeartbeats 4000000 in
set_option maxRecDepth 100000 in
theorem ct_Bs_damage {D : va_G} {l : Launch} {cI cZ cR cM : ClassId} {M : Mem} {ad : Nat → Nat} {G : G1} (h : R1 cI cR cM M ad G) (u x : Int32) (hsz : G.N (2 + lx u) ≤ cap (lx u)) : Ct TT D cls (tyL cI cZ cR cM) l y_Bs_damage b_Bs_damage 4 (some .int) 1 21 0 0 [.ref (ad 0), .int u, .int x] M (fun rv M' => ((x < 0 ∨ nI (G.N (2 + lx u)) ≤ x) ∧ rv = some (.int (-3)) ∧ R1 cI cR cM M' ad G) ∨ ∃ j, j < G.N (2 + lx u) ∧ x = nI j ∧ rv = some (.int 0) ∧ R1 cI cR cM M' ad (G.dm (lx u) j)) := by
  refine ct_of "BlockTargetSession" rfl (by decide) (Nat.le_of_ble_eq_true rfl) ?_
  intro Z hl hD hnm hQ C
  subst hl
  subst hD
  show V cls 4 (rmOf 1 21 0 0) Z 0 [(0, .ref (ad 0)), (1, .int u), (2, .int x)] [] M 0 0
  refine v_aload_n C (i := 0) d_Bs_damage_0 rfl rfl ?_
  refine v_iload_n C (i := 1) d_Bs_damage_1 rfl rfl ?_
  refine v_callV C (As := [.int u]) (rest := []) h.o cl_Bs rfl w_215 wp_4 (ct_Bs_lineOf h u) (Nat.le_of_ble_eq_true rfl) (Nat.le_of_ble_eq_true rfl) w_216 w_1 hy_Bs_lineOf w_213 rfl (Nat.le_of_ble_eq_true rfl) ⟨by decide, by decide⟩ d_Bs_damage_2 (fun rv M hp => ?_)
  obtain ⟨rfl, rfl⟩ := hp
  refine V.eqst (st' := [.ref (ad (6 + 2 * lx u))]) rfl (V.cs (k' := 0) (n' := 0) rfl rfl ?_)
  refine v_iload_n C (i := 2) d_Bs_damage_5 rfl rfl ?_
  refine v_callV C (As := [.int x]) (rest := []) (h.ln (lx u) (lx_lt u)) cl_Ln rfl w_297 w_298 (ct_Ln_messageAt (sl := ad (7 + 2 * lx u)) (sz := G.N (2 + lx u)) (N := cap (lx u)) (g := fun j => if j < cap (lx u) then some (ad (mb (lx u) + j)) else none) (a := fun j => ad (mb (lx u) + j)) (h.ln (lx u) (lx_lt u)) (h.sl (lx u) (lx_lt u)) (by have := lx_lt u; simp only [cap]; omega) hsz (fun j hj => if_pos hj) x) (Nat.le_of_ble_eq_true rfl) (Nat.le_of_ble_eq_true rfl) w_299 w_2 hy_Ln_messageAt w_296 rfl (Nat.le_of_ble_eq_true rfl) ⟨by decide, by decide⟩ d_Bs_damage_6 (fun rv M hp => ?_)
  obtain ⟨rfl, hp⟩ := hp
  rcases hp with ⟨rfl, hx⟩ | ⟨j, hj, rfl, rfl⟩
  · refine V.eqst (st' := [.null]) rfl (V.cs (k' := 0) (n' := 0) rfl rfl ?_)
    refine v_astore_nN C (i := 3) (lv' := [(3, .null), (0, .ref (ad 0)), (1, .int u), (2, .int x)]) d_Bs_damage_9 rfl (by decide) rfl ?_
    refine v_aload_nN C (i := 3) d_Bs_damage_10 rfl rfl ?_
    refine v_ifnonnullN C d_Bs_damage_11 ?_
    refine v_bipush C (v := (-3)) d_Bs_damage_14 (by decide) ?_
    exact v_iret hQ C rfl d_Bs_damage_16 (by omega) (by omega) (Or.inl ⟨hx, rfl, h⟩)
  · refine V.eqst (st' := [.ref (ad (mb (lx u) + j))]) rfl (V.cs (k' := 0) (n' := 0) rfl rfl ?_)
    refine v_astore_n C (i := 3) (lv' := [(3, .ref (ad (mb (lx u) + j))), (0, .ref (ad 0)), (1, .int u), (2, .int (nI j))]) d_Bs_damage_9 rfl (by decide) rfl ?_
    refine v_aload_n C (i := 3) d_Bs_damage_10 rfl rfl ?_
    refine v_ifnonnull C 17 d_Bs_damage_11 (by decide) ?_
    refine v_aload_n C (i := 3) d_Bs_damage_17 rfl rfl ?_
    refine v_iconst C (v := 1) d_Bs_damage_18 (by decide) ?_
    refine v_put C in_Ms t_Ms to_Ms nm_Ms (h.ms (lx u) j (lx_lt u) (by omega)) cl_Ms 5 (by decide) (fs' := [.int (G.T (10 + 10 * lx u) j), .int (G.T (11 + 10 * lx u) j), .int (G.T (12 + 10 * lx u) j), .int (G.T (13 + 10 * lx u) j), .int (G.T (14 + 10 * lx u) j), .int 1]) w_43 rfl rfl rfl rfl (Nat.le_of_ble_eq_true rfl) rfl d_Bs_damage_19 ?_
    have h : R1 cI cR cM (mset M (ad (mb (lx u) + j)) (ob 1 [.int (G.T (10 + 10 * lx u) j), .int (G.T (11 + 10 * lx u) j), .int (G.T (12 + 10 * lx u) j), .int (G.T (13 + 10 * lx u) j), .int (G.T (14 + 10 * lx u) j), .int 1])) ad (G.dm (lx u) j) := h.pdm (lx u) j (lx_lt u) (by omega)
    revert h
    generalize mset M (ad (mb (lx u) + j)) (ob 1 [.int (G.T (10 + 10 * lx u) j), .int (G.T (11 + 10 * lx u) j), .int (G.T (12 + 10 * lx u) j), .int (G.T (13 + 10 * lx u) j), .int (G.T (14 + 10 * lx u) j), .int 1]) = M
    intro h
    refine v_iconst C (v := 0) d_Bs_damage_22 (by decide) ?_
    exact v_iret hQ C rfl d_Bs_damage_23 (by omega) (by omega) (Or.inr ⟨j, hj, rfl, rfl, h⟩)
set_option maxHeartbeats 4000000 in
set_option maxRecDepth 100000 in
theorem ct_Bs_message {D : va_G} {l : Launch} {cI cZ cR cM : ClassId} {M : Mem} {ad : Nat → Nat} {G : G1} (h : R1 cI cR cM M ad G) (u x f : Int32) (hsz : G.N (2 + lx u) ≤ cap (lx u)) : Ct TT D cls (tyL cI cZ cR cM) l y_Bs_message b_Bs_message 5 (some .int) 1 21 0 0 [.ref (ad 0), .int u, .int x, .int f] M (fun rv M' => M' = M ∧ (((x < 0 ∨ nI (G.N (2 + lx u)) ≤ x) ∧ rv = some (.int (-1))) ∨ ∃ j, j < G.N (2 + lx u) ∧ x = nI j ∧ rv = some (.int (fldA G (lx u) j f)))) := by
  refine ct_of "BlockTargetSession" rfl (by decide) (Nat.le_of_ble_eq_true rfl) ?_
  intro Z hl hD hnm hQ C
  subst hl
  subst hD
  show V cls 5 (rmOf 1 21 0 0) Z 0 [(0, .ref (ad 0)), (1, .int u), (2, .int x), (3, .int f)] [] M 0 0
  refine v_aload_n C (i := 0) d_Bs_message_0 rfl rfl ?_
  refine v_iload_n C (i := 1) d_Bs_message_1 rfl rfl ?_
  refine v_callV C (As := [.int u]) (rest := []) h.o cl_Bs rfl w_215 wp_4 (ct_Bs_lineOf h u) (Nat.le_of_ble_eq_true rfl) (Nat.le_of_ble_eq_true rfl) w_216 w_1 hy_Bs_lineOf w_213 rfl (Nat.le_of_ble_eq_true rfl) ⟨by decide, by decide⟩ d_Bs_message_2 (fun rv M hp => ?_)
  obtain ⟨rfl, rfl⟩ := hp
  refine V.eqst (st' := [.ref (ad (6 + 2 * lx u))]) rfl (V.cs (k' := 0) (n' := 0) rfl rfl ?_)
  refine v_iload_n C (i := 2) d_Bs_message_5 rfl rfl ?_
  refine v_callV C (As := [.int x]) (rest := []) (h.ln (lx u) (lx_lt u)) cl_Ln rfl w_297 w_298 (ct_Ln_messageAt (sl := ad (7 + 2 * lx u)) (sz := G.N (2 + lx u)) (N := cap (lx u)) (g := fun j => if j < cap (lx u) then some (ad (mb (lx u) + j)) else none) (a := fun j => ad (mb (lx u) + j)) (h.ln (lx u) (lx_lt u)) (h.sl (lx u) (lx_lt u)) (by have := lx_lt u; simp only [cap]; omega) hsz (fun j hj => if_pos hj) x) (Nat.le_of_ble_eq_true rfl) (Nat.le_of_ble_eq_true rfl) w_299 w_2 hy_Ln_messageAt w_296 rfl (Nat.le_of_ble_eq_true rfl) ⟨by decide, by decide⟩ d_Bs_message_6 (fun rv M hp => ?_)
  obtain ⟨rfl, hp⟩ := hp
  rcases hp with ⟨rfl, hx⟩ | ⟨j, hj, rfl, rfl⟩
  · refine V.eqst (st' := [.null]) rfl (V.cs (k' := 0) (n' := 0) rfl rfl ?_)
    refine v_astoreN C (i := 4) (lv' := [(4, .null), (0, .ref (ad 0)), (1, .int u), (2, .int x), (3, .int f)]) d_Bs_message_9 (by decide) rfl ?_
    refine v_aloadN C (i := 4) d_Bs_message_11 rfl ?_
    refine v_ifnonnullN C d_Bs_message_13 ?_
    refine v_iconst C (v := (-1)) d_Bs_message_16 (by decide) ?_
    exact v_iret hQ C rfl d_Bs_message_17 (by omega) (by omega) ⟨rfl, Or.inl ⟨hx, rfl⟩⟩
  · refine V.eqst (st' := [.ref (ad (mb (lx u) + j))]) rfl (V.cs (k' := 0) (n' := 0) rfl rfl ?_)
    refine v_astore C (i := 4) (lv' := [(4, .ref (ad (mb (lx u) + j))), (0, .ref (ad 0)), (1, .int u), (2, .int (nI j)), (3, .int f)]) d_Bs_message_9 (by decide) rfl ?_
    refine v_aload C (i := 4) d_Bs_message_11 rfl ?_
    refine v_ifnonnull C 18 d_Bs_message_13 (by decide) ?_
    refine v_iload_n C (i := 3) d_Bs_message_18 rfl rfl ?_
    rcases pk_ix f (n := 5) (by decide) with ht | ht | ⟨jt, hjt, rfl⟩
    · refine v_tableOut C 90 d_Bs_message_19 (Or.inl (ts_neg ht)) (by decide) ?_
      refine v_iconst C (v := (-1)) d_Bs_message_90 (by decide) ?_
      exact v_iret hQ C rfl d_Bs_message_91 (by omega) (by omega) ⟨rfl, Or.inr ⟨j, hj, rfl, by rw [fldA_out _ _ _ (Or.inl ht)]⟩⟩
    · refine v_tableOut C 90 d_Bs_message_19 (Or.inr (ts_big (n := 4) ht (by decide))) (by decide) ?_
      refine v_iconst C (v := (-1)) d_Bs_message_90 (by decide) ?_
      exact v_iret hQ C rfl d_Bs_message_91 (by omega) (by omega) ⟨rfl, Or.inr ⟨j, hj, rfl, by rw [fldA_out _ _ _ (Or.inr ht)]⟩⟩
    · rcases (show jt = 0 ∨ jt = 1 ∨ jt = 2 ∨ jt = 3 ∨ jt = 4 by omega) with rfl | rfl | rfl | rfl | rfl
      · refine v_tableIn C 52 d_Bs_message_19 (by decide) (by decide) rfl (by decide) ?_
        refine v_aload C (i := 4) d_Bs_message_52 rfl ?_
        refine v_get C (v := .int (G.T (10 + 10 * lx u) j)) in_Ms (h.ms (lx u) j (lx_lt u) (by omega)) cl_Ms 0 (by decide) w_33 rfl rfl d_Bs_message_54 ?_
        exact v_iret hQ C rfl d_Bs_message_57 (by omega) (by omega) ⟨rfl, Or.inr ⟨j, hj, rfl, rfl⟩⟩
      · refine v_tableIn C 58 d_Bs_message_19 (by decide) (by decide) rfl (by decide) ?_
        refine v_aload C (i := 4) d_Bs_message_58 rfl ?_
        refine v_get C (v := .int (G.T (11 + 10 * lx u) j)) in_Ms (h.ms (lx u) j (lx_lt u) (by omega)) cl_Ms 1 (by decide) w_35 rfl rfl d_Bs_message_60 ?_
        exact v_iret hQ C rfl d_Bs_message_63 (by omega) (by omega) ⟨rfl, Or.inr ⟨j, hj, rfl, rfl⟩⟩
      · refine v_tableIn C 64 d_Bs_message_19 (by decide) (by decide) rfl (by decide) ?_
        refine v_aload C (i := 4) d_Bs_message_64 rfl ?_
        refine v_get C (v := .int (G.T (12 + 10 * lx u) j)) in_Ms (h.ms (lx u) j (lx_lt u) (by omega)) cl_Ms 2 (by decide) w_37 rfl rfl d_Bs_message_66 ?_
        exact v_iret hQ C rfl d_Bs_message_69 (by omega) (by omega) ⟨rfl, Or.inr ⟨j, hj, rfl, rfl⟩⟩
      · refine v_tableIn C 70 d_Bs_message_19 (by decide) (by decide) rfl (by decide) ?_
        refine v_aload C (i := 4) d_Bs_message_70 rfl ?_
        refine v_get C (v := .int (G.T (14 + 10 * lx u) j)) in_Ms (h.ms (lx u) j (lx_lt u) (by omega)) cl_Ms 4 (by decide) w_41 rfl rfl d_Bs_message_72 ?_
        exact v_iret hQ C rfl d_Bs_message_75 (by omega) (by omega) ⟨rfl, Or.inr ⟨j, hj, rfl, rfl⟩⟩
      · refine v_tableIn C 76 d_Bs_message_19 (by decide) (by decide) rfl (by decide) ?_
        refine v_aload C (i := 4) d_Bs_message_76 rfl ?_
        refine v_get C (v := .int (G.T (15 + 10 * lx u) j)) in_Ms (h.ms (lx u) j (lx_lt u) (by omega)) cl_Ms 5 (by decide) w_43 rfl rfl d_Bs_message_78 ?_
        refine v_if_eq C 88 d_Bs_message_81 (by decide) (fun c_81 => ?_) (fun c_81 => ?_)
        · refine v_iconst C (v := 0) d_Bs_message_88 (by decide) ?_
          exact v_iret hQ C rfl d_Bs_message_89 (by omega) (by omega) ⟨rfl, Or.inr ⟨j, hj, rfl, by rw [show fldA G (lx u) j (nI 4) = if G.T (15 + 10 * lx u) j = 0 then 0 else 1 from rfl, if_pos c_81]⟩⟩
        · refine v_iconst C (v := 1) d_Bs_message_84 (by decide) ?_
          refine v_goto C 89 d_Bs_message_85 (by decide) ?_
          exact v_iret hQ C rfl d_Bs_message_89 (by omega) (by omega) ⟨rfl, Or.inr ⟨j, hj, rfl, by rw [show fldA G (lx u) j (nI 4) = if G.T (15 + 10 * lx u) j = 0 then 0 else 1 from rfl, if_neg c_81]⟩⟩
def G1.countA (G : G1) (x : Int32) : Int32 :=
  if x = 0 then nI (G.N 0) else if x = 1 then nI (cnt (G.T 7) 0 (G.N 0)) else if x = 2 then nI (cnt (G.T 7) 1 (G.N 0)) else if x = 3 then nI (cnt (G.T 7) 2 (G.N 0)) else if x = 4 then nI (G.N 1) else if x = 5 then G.I 3 else if x = 6 then G.I 4 else if x = 7 then G.I 5 else if x = 8 then G.I 2 else -1
theorem countA_out (G : G1) {x : Int32} (h : x < 0 ∨ nI 9 ≤ x) : G.countA x = -1 := by
  unfold G1.countA
  rw [if_neg (fun e => by subst e; revert h; decide), if_neg (fun e => by subst e; revert h; decide), if_neg (fun e => by subst e; revert h; decide), if_neg (fun e => by subst e; revert h; decide), if_neg (fun e => by subst e; revert h; decide), if_neg (fun e => by subst e; revert h; decide), if_neg (fun e => by subst e; revert h; decide), if_neg (fun e => by subst e; revert h; decide), if_neg (fun e => by subst e; revert h; decide)]
set_option maxHeartbeats 4000000 in
set_option maxRecDepth 100000 in
theorem ct_Bs_count {D : va_G} {l : Launch} {cI cZ cR cM : ClassId} {M : Mem} {ad : Nat → Nat} {G : G1} (h : R1 cI cR cM M ad G) (hn : G.N 0 ≤ 120) (x : Int32) : Ct TT D cls (tyL cI cZ cR cM) l y_Bs_count b_Bs_count 2 (some .int) 1 23 0 0 [.ref (ad 0), .int x] M (fun rv M' => M' = M ∧ rv = some (.int (G.countA x))) := by
  refine ct_of "BlockTargetSession" rfl (by decide) (Nat.le_of_ble_eq_true rfl) ?_
  intro Z hl hD hnm hQ C
  subst hl
  subst hD
  show V cls 2 (rmOf 1 23 0 0) Z 0 [(0, .ref (ad 0)), (1, .int x)] [] M 0 0
  refine v_iload_n C (i := 1) d_Bs_count_0 rfl rfl ?_
  rcases pk_ix x (n := 9) (by decide) with ht | ht | ⟨jt, hjt, rfl⟩
  · refine v_tableOut C 103 d_Bs_count_1 (Or.inl (ts_neg ht)) (by decide) ?_
    refine v_iconst C (v := (-1)) d_Bs_count_103 (by decide) ?_
    exact v_iret hQ C rfl d_Bs_count_104 (by omega) (by omega) ⟨rfl, by rw [countA_out _ (Or.inl ht)]⟩
  · refine v_tableOut C 103 d_Bs_count_1 (Or.inr (ts_big (n := 8) ht (by decide))) (by decide) ?_
    refine v_iconst C (v := (-1)) d_Bs_count_103 (by decide) ?_
    exact v_iret hQ C rfl d_Bs_count_104 (by omega) (by omega) ⟨rfl, by rw [countA_out _ (Or.inr ht)]⟩
  · rcases (show jt = 0 ∨ jt = 1 ∨ jt = 2 ∨ jt = 3 ∨ jt = 4 ∨ jt = 5 ∨ jt = 6 ∨ jt = 7 ∨ jt = 8 by omega) with rfl | rfl | rfl | rfl | rfl | rfl | rfl | rfl | rfl
    · refine v_tableIn C 52 d_Bs_count_1 (by decide) (by decide) rfl (by decide) ?_
      refine v_aload_n C (i := 0) d_Bs_count_52 rfl rfl ?_
      refine v_get C (v := .int (nI (G.N 0))) in_Bs h.o cl_Bs 3 (by decide) w_106 rfl rfl d_Bs_count_53 ?_
      exact v_iret hQ C rfl d_Bs_count_56 (by omega) (by omega) ⟨rfl, rfl⟩
    · refine v_tableIn C 57 d_Bs_count_1 (by decide) (by decide) rfl (by decide) ?_
      refine v_aload_n C (i := 0) d_Bs_count_57 rfl rfl ?_
      refine v_iconst C (v := 0) d_Bs_count_58 (by decide) ?_
      refine v_callV C (As := [.int 0]) (rest := []) h.o cl_Bs rfl w_318 wp_15 (ct_Bs_requestsIn h hn 0) (Nat.le_of_ble_eq_true rfl) (Nat.le_of_ble_eq_true rfl) w_319 w_1 hy_Bs_requestsIn w_316 rfl (Nat.le_of_ble_eq_true rfl) ⟨by decide, by decide⟩ d_Bs_count_59 (fun rv M hp => ?_)
      obtain ⟨rfl, rfl⟩ := hp
      refine V.eqst (st' := [.int (nI (cnt (G.T 7) 0 (G.N 0)))]) rfl (V.cs (k' := 0) (n' := 0) rfl rfl ?_)
      exact v_iret hQ C rfl d_Bs_count_62 (by omega) (by omega) ⟨rfl, rfl⟩
    · refine v_tableIn C 63 d_Bs_count_1 (by decide) (by decide) rfl (by decide) ?_
      refine v_aload_n C (i := 0) d_Bs_count_63 rfl rfl ?_
      refine v_iconst C (v := 1) d_Bs_count_64 (by decide) ?_
      refine v_callV C (As := [.int 1]) (rest := []) h.o cl_Bs rfl w_318 wp_15 (ct_Bs_requestsIn h hn 1) (Nat.le_of_ble_eq_true rfl) (Nat.le_of_ble_eq_true rfl) w_319 w_1 hy_Bs_requestsIn w_316 rfl (Nat.le_of_ble_eq_true rfl) ⟨by decide, by decide⟩ d_Bs_count_65 (fun rv M hp => ?_)
      obtain ⟨rfl, rfl⟩ := hp
      refine V.eqst (st' := [.int (nI (cnt (G.T 7) 1 (G.N 0)))]) rfl (V.cs (k' := 0) (n' := 0) rfl rfl ?_)
      exact v_iret hQ C rfl d_Bs_count_68 (by omega) (by omega) ⟨rfl, rfl⟩
    · refine v_tableIn C 69 d_Bs_count_1 (by decide) (by decide) rfl (by decide) ?_
      refine v_aload_n C (i := 0) d_Bs_count_69 rfl rfl ?_
      refine v_iconst C (v := 2) d_Bs_count_70 (by decide) ?_
      refine v_callV C (As := [.int 2]) (rest := []) h.o cl_Bs rfl w_318 wp_15 (ct_Bs_requestsIn h hn 2) (Nat.le_of_ble_eq_true rfl) (Nat.le_of_ble_eq_true rfl) w_319 w_1 hy_Bs_requestsIn w_316 rfl (Nat.le_of_ble_eq_true rfl) ⟨by decide, by decide⟩ d_Bs_count_71 (fun rv M hp => ?_)
      obtain ⟨rfl, rfl⟩ := hp
      refine V.eqst (st' := [.int (nI (cnt (G.T 7) 2 (G.N 0)))]) rfl (V.cs (k' := 0) (n' := 0) rfl rfl ?_)
      exact v_iret hQ C rfl d_Bs_count_74 (by omega) (by omega) ⟨rfl, rfl⟩
    · refine v_tableIn C 75 d_Bs_count_1 (by decide) (by decide) rfl (by decide) ?_
      refine v_aload_n C (i := 0) d_Bs_count_75 rfl rfl ?_
      refine v_get C (v := .ref (ad 1)) in_Bs h.o cl_Bs 1 (by decide) w_104 rfl rfl d_Bs_count_76 ?_
      refine v_get C (v := .int (nI (G.N 1))) in_St h.st cl_St 4 (by decide) w_86 rfl rfl d_Bs_count_79 ?_
      exact v_iret hQ C rfl d_Bs_count_82 (by omega) (by omega) ⟨rfl, rfl⟩
    · refine v_tableIn C 83 d_Bs_count_1 (by decide) (by decide) rfl (by decide) ?_
      refine v_aload_n C (i := 0) d_Bs_count_83 rfl rfl ?_
      refine v_get C (v := .int (G.I 3)) in_Bs h.o cl_Bs 8 (by decide) w_111 rfl rfl d_Bs_count_84 ?_
      exact v_iret hQ C rfl d_Bs_count_87 (by omega) (by omega) ⟨rfl, rfl⟩
    · refine v_tableIn C 88 d_Bs_count_1 (by decide) (by decide) rfl (by decide) ?_
      refine v_aload_n C (i := 0) d_Bs_count_88 rfl rfl ?_
      refine v_get C (v := .int (G.I 4)) in_Bs h.o cl_Bs 9 (by decide) w_112 rfl rfl d_Bs_count_89 ?_
      exact v_iret hQ C rfl d_Bs_count_92 (by omega) (by omega) ⟨rfl, rfl⟩
    · refine v_tableIn C 93 d_Bs_count_1 (by decide) (by decide) rfl (by decide) ?_
      refine v_aload_n C (i := 0) d_Bs_count_93 rfl rfl ?_
      refine v_get C (v := .int (G.I 5)) in_Bs h.o cl_Bs 10 (by decide) w_113 rfl rfl d_Bs_count_94 ?_
      exact v_iret hQ C rfl d_Bs_count_97 (by omega) (by omega) ⟨rfl, rfl⟩
    · refine v_tableIn C 98 d_Bs_count_1 (by decide) (by decide) rfl (by decide) ?_
      refine v_aload_n C (i := 0) d_Bs_count_98 rfl rfl ?_
      refine v_get C (v := .int (G.I 2)) in_Bs h.o cl_Bs 7 (by decide) w_110 rfl rfl d_Bs_count_99 ?_
      exact v_iret hQ C rfl d_Bs_count_102 (by omega) (by omega) ⟨rfl, rfl⟩
