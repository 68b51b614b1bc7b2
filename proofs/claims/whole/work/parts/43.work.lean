set_option maxHeartbeats 4000000 in
set_option maxRecDepth 100000 in
theorem ct_Bs_sendUp {D : va_G} {l : Launch} {cI cZ cR cM : ClassId} {M : Mem} {ad : Nat → Nat} {G : G1} (h : R1 cI cR cM M ad G) (hcap : G.N 2 < 4) (a b c : Int32) : Ct TT D cls (tyL cI cZ cR cM) l y_Bs_sendUp b_Bs_sendUp 5 none 1 25 0 0 [.ref (ad 0), .int a, .int b, .int c] M (fun rv M' => rv = none ∧ R1 cI cR cM M' ad (G.snd 0 a b c 0 0)) := by
  refine ct_of "BlockTargetSession" rfl (by decide) (Nat.le_of_ble_eq_true rfl) ?_
  intro Z hl hD hnm hQ C
  subst hl
  subst hD
  show V cls 5 (rmOf 1 25 0 0) Z 0 [(0, .ref (ad 0)), (1, .int a), (2, .int b), (3, .int c)] [] M 0 0
  refine v_aload_n C (i := 0) d_Bs_sendUp_0 rfl rfl ?_
  refine v_get C (v := .ref (ad 6)) in_Bs h.o cl_Bs 4 (by decide) w_107 rfl rfl d_Bs_sendUp_1 ?_
  refine v_callV C (As := []) (rest := []) (h.ln 0 (by decide)) cl_Ln rfl w_202 w_203 (ct_Ln_putNewest (sl := ad 7) (sz := G.N 2) (N := 4) (g := fun j => if j < 4 then some (ad (10 + j)) else none) (a := fun j => ad (10 + j)) (h.ln 0 (by decide)) (h.sl 0 (by decide)) (by decide) (by omega) (fun j hj => if_pos hj)) (Nat.le_of_ble_eq_true rfl) (Nat.le_of_ble_eq_true rfl) w_204 w_2 hy_Ln_putNewest w_201 rfl (Nat.le_of_ble_eq_true rfl) ⟨by decide, by decide⟩ d_Bs_sendUp_4 (fun rv M hp => ?_)
  rcases hp with ⟨hge, _, _⟩ | ⟨_, rfl, rfl⟩
  · exact absurd hge (by omega)
  have h : R1 cI cR cM (mset M (ad 6) (ob 0 [.ref (ad 7), .int (nI (G.N 2 + 1))])) ad (G.sN 2 (G.N 2 + 1)) := h.psz 0 (G.N 2 + 1) (by decide)
  revert h
  generalize mset M (ad 6) (ob 0 [.ref (ad 7), .int (nI (G.N 2 + 1))]) = M
  intro h
  refine V.eqst (st' := [.ref (ad (10 + G.N 2))]) rfl (V.cs (k' := 0) (n' := 0) rfl rfl ?_)
  refine v_astore C (i := 4) (lv' := [(4, .ref (ad (10 + G.N 2))), (0, .ref (ad 0)), (1, .int a), (2, .int b), (3, .int c)]) d_Bs_sendUp_7 (by decide) rfl ?_
  refine v_aload C (i := 4) d_Bs_sendUp_9 rfl ?_
  refine v_ifnull C d_Bs_sendUp_11 ?_
  refine v_aload C (i := 4) d_Bs_sendUp_14 rfl ?_
  refine v_iload_n C (i := 1) d_Bs_sendUp_16 rfl rfl ?_
  refine v_iload_n C (i := 2) d_Bs_sendUp_17 rfl rfl ?_
  refine v_iload_n C (i := 3) d_Bs_sendUp_18 rfl rfl ?_
  refine v_iconst C (v := 0) d_Bs_sendUp_19 (by decide) ?_
  refine v_iconst C (v := 0) d_Bs_sendUp_20 (by decide) ?_
  refine v_callV C (As := [.int a, .int b, .int c, .int 0, .int 0]) (rest := []) (h.ms 0 (G.N 2) (by decide) hcap) cl_Ms rfl w_206 w_207 (ct_Ms_fill (h.ms 0 (G.N 2) (by decide) hcap) a b c 0 0) (Nat.le_of_ble_eq_true rfl) (Nat.le_of_ble_eq_true rfl) w_208 w_3 hy_Ms_fill w_205 rfl (Nat.le_of_ble_eq_true rfl) ⟨by decide, by decide⟩ d_Bs_sendUp_21 (fun rv M hp => ?_)
  obtain ⟨rfl, rfl⟩ := hp
  have h : R1 cI cR cM (mset M (ad (10 + G.N 2)) (ob 1 [.int a, .int b, .int c, .int 0, .int 0, .int 0])) ad (G.snd 0 a b c 0 0) := h.pM 0 (G.N 2) (by decide) hcap (v6 a b c 0 0 0)
  revert h
  generalize mset M (ad (10 + G.N 2)) (ob 1 [.int a, .int b, .int c, .int 0, .int 0, .int 0]) = M
  intro h
  refine V.eqst (st' := []) rfl (V.cs (k' := 0) (n' := 0) rfl rfl ?_)
  exact v_vret hQ C rfl d_Bs_sendUp_24 (by omega) (by omega) ⟨rfl, h⟩
set_option maxHeartbeats 4000000 in
set_option maxRecDepth 100000 in
theorem ct_Bs_sendDown {D : va_G} {l : Launch} {cI cZ cR cM : ClassId} {M : Mem} {ad : Nat → Nat} {G : G1} (h : R1 cI cR cM M ad G) (hcap : G.N 3 < 16) (a b c d : Int32) : Ct TT D cls (tyL cI cZ cR cM) l y_Bs_sendDown b_Bs_sendDown 6 none 1 25 0 0 [.ref (ad 0), .int a, .int b, .int c, .int d] M (fun rv M' => rv = none ∧ R1 cI cR cM M' ad (G.snd 1 a b c d (G.I 4 + G.I 0))) := by
  refine ct_of "BlockTargetSession" rfl (by decide) (Nat.le_of_ble_eq_true rfl) ?_
  intro Z hl hD hnm hQ C
  subst hl
  subst hD
  show V cls 6 (rmOf 1 25 0 0) Z 0 [(0, .ref (ad 0)), (1, .int a), (2, .int b), (3, .int c), (4, .int d)] [] M 0 0
  refine v_aload_n C (i := 0) d_Bs_sendDown_0 rfl rfl ?_
  refine v_get C (v := .ref (ad 8)) in_Bs h.o cl_Bs 5 (by decide) w_108 rfl rfl d_Bs_sendDown_1 ?_
  refine v_callV C (As := []) (rest := []) (h.ln 1 (by decide)) cl_Ln rfl w_202 w_203 (ct_Ln_putNewest (sl := ad 9) (sz := G.N 3) (N := 16) (g := fun j => if j < 16 then some (ad (14 + j)) else none) (a := fun j => ad (14 + j)) (h.ln 1 (by decide)) (h.sl 1 (by decide)) (by decide) (by omega) (fun j hj => if_pos hj)) (Nat.le_of_ble_eq_true rfl) (Nat.le_of_ble_eq_true rfl) w_204 w_2 hy_Ln_putNewest w_201 rfl (Nat.le_of_ble_eq_true rfl) ⟨by decide, by decide⟩ d_Bs_sendDown_4 (fun rv M hp => ?_)
  rcases hp with ⟨hge, _, _⟩ | ⟨_, rfl, rfl⟩
  · exact absurd hge (by omega)
  have h : R1 cI cR cM (mset M (ad 8) (ob 0 [.ref (ad 9), .int (nI (G.N 3 + 1))])) ad (G.sN 3 (G.N 3 + 1)) := h.psz 1 (G.N 3 + 1) (by decide)
  revert h
  generalize mset M (ad 8) (ob 0 [.ref (ad 9), .int (nI (G.N 3 + 1))]) = M
  intro h
  refine V.eqst (st' := [.ref (ad (14 + G.N 3))]) rfl (V.cs (k' := 0) (n' := 0) rfl rfl ?_)
  refine v_astore C (i := 5) (lv' := [(5, .ref (ad (14 + G.N 3))), (0, .ref (ad 0)), (1, .int a), (2, .int b), (3, .int c), (4, .int d)]) d_Bs_sendDown_7 (by decide) rfl ?_
  refine v_aload C (i := 5) d_Bs_sendDown_9 rfl ?_
  refine v_ifnull C d_Bs_sendDown_11 ?_
  refine v_aload C (i := 5) d_Bs_sendDown_14 rfl ?_
  refine v_iload_n C (i := 1) d_Bs_sendDown_16 rfl rfl ?_
  refine v_iload_n C (i := 2) d_Bs_sendDown_17 rfl rfl ?_
  refine v_iload_n C (i := 3) d_Bs_sendDown_18 rfl rfl ?_
  refine v_iload C (i := 4) d_Bs_sendDown_19 rfl ?_
  refine v_aload_n C (i := 0) d_Bs_sendDown_21 rfl rfl ?_
  refine v_get C (v := .int (G.I 4)) in_Bs h.o cl_Bs 9 (by decide) w_112 rfl rfl d_Bs_sendDown_22 ?_
  refine v_aload_n C (i := 0) d_Bs_sendDown_25 rfl rfl ?_
  refine v_get C (v := .int (G.I 0)) in_Bs h.o cl_Bs 0 (by decide) w_103 rfl rfl d_Bs_sendDown_26 ?_
  refine v_iadd C d_Bs_sendDown_29 ?_
  refine v_callV C (As := [.int a, .int b, .int c, .int d, .int ((G.I 4) + (G.I 0))]) (rest := []) (h.ms 1 (G.N 3) (by decide) hcap) cl_Ms rfl w_206 w_207 (ct_Ms_fill (h.ms 1 (G.N 3) (by decide) hcap) a b c d ((G.I 4) + (G.I 0))) (Nat.le_of_ble_eq_true rfl) (Nat.le_of_ble_eq_true rfl) w_208 w_3 hy_Ms_fill w_205 rfl (Nat.le_of_ble_eq_true rfl) ⟨by decide, by decide⟩ d_Bs_sendDown_30 (fun rv M hp => ?_)
  obtain ⟨rfl, rfl⟩ := hp
  have h : R1 cI cR cM (mset M (ad (14 + G.N 3)) (ob 1 [.int a, .int b, .int c, .int d, .int ((G.I 4) + (G.I 0)), .int 0])) ad (G.snd 1 a b c d ((G.I 4) + (G.I 0))) := h.pM 1 (G.N 3) (by decide) hcap (v6 a b c d ((G.I 4) + (G.I 0)) 0)
  revert h
  generalize mset M (ad (14 + G.N 3)) (ob 1 [.int a, .int b, .int c, .int d, .int ((G.I 4) + (G.I 0)), .int 0]) = M
  intro h
  refine V.eqst (st' := []) rfl (V.cs (k' := 0) (n' := 0) rfl rfl ?_)
  exact v_vret hQ C rfl d_Bs_sendDown_33 (by omega) (by omega) ⟨rfl, h⟩
set_option maxHeartbeats 4000000 in
set_option maxRecDepth 100000 in
theorem ct_Bs_finish {D : va_G} {l : Launch} {cI cZ cR cM : ClassId} {M : Mem} {ad : Nat → Nat} {G : G1} (h : R1 cI cR cM M ad G) (hcap : G.N 3 < 16) (q : Int32) : Ct TT D cls (tyL cI cZ cR cM) l y_Bs_finish b_Bs_finish 2 none 2 50 0 0 [.ref (ad 0), .int q] M (fun rv M' => rv = none ∧ R1 cI cR cM M' ad (G.fin q)) := by
  refine ct_of "BlockTargetSession" rfl (by decide) (Nat.le_of_ble_eq_true rfl) ?_
  intro Z hl hD hnm hQ C
  subst hl
  subst hD
  show V cls 2 (rmOf 2 50 0 0) Z 0 [(0, .ref (ad 0)), (1, .int q)] [] M 0 0
  refine v_aload_n C (i := 0) d_Bs_finish_0 rfl rfl ?_
  refine v_dup C d_Bs_finish_1 rfl ?_
  refine v_get C (v := .int (G.I 4)) in_Bs h.o cl_Bs 9 (by decide) w_112 rfl rfl d_Bs_finish_2 ?_
  refine v_iconst C (v := 1) d_Bs_finish_5 (by decide) ?_
  refine v_iadd C d_Bs_finish_6 ?_
  refine v_put C in_Bs t_Bs to_Bs nm_Bs h.o cl_Bs 9 (by decide) (fs' := [.int (G.I 0), .ref (ad 1), .ref (ad 5), .int (nI (G.N 0)), .ref (ad 6), .ref (ad 8), .int (G.I 1), .int (G.I 2), .int (G.I 3), .int ((G.I 4) + 1), .int (G.I 5)]) w_112 rfl rfl rfl rfl (Nat.le_of_ble_eq_true rfl) rfl d_Bs_finish_7 ?_
  have h : R1 cI cR cM (mset M (ad 0) (ob 4 [.int (G.I 0), .ref (ad 1), .ref (ad 5), .int (nI (G.N 0)), .ref (ad 6), .ref (ad 8), .int (G.I 1), .int (G.I 2), .int (G.I 3), .int ((G.I 4) + 1), .int (G.I 5)])) ad (G.sI 4 ((G.I 4) + 1)) := h.po 4 ((G.I 4) + 1)
  revert h
  generalize mset M (ad 0) (ob 4 [.int (G.I 0), .ref (ad 1), .ref (ad 5), .int (nI (G.N 0)), .ref (ad 6), .ref (ad 8), .int (G.I 1), .int (G.I 2), .int (G.I 3), .int ((G.I 4) + 1), .int (G.I 5)]) = M
  intro h
  refine v_aload_n C (i := 0) d_Bs_finish_10 rfl rfl ?_
  refine v_iload_n C (i := 1) d_Bs_finish_11 rfl rfl ?_
  refine v_iconst C (v := 4) d_Bs_finish_12 (by decide) ?_
  refine v_iconst C (v := 0) d_Bs_finish_13 (by decide) ?_
  refine v_iconst C (v := 0) d_Bs_finish_14 (by decide) ?_
  refine v_callV C (As := [.int q, .int 4, .int 0, .int 0]) (rest := []) h.o cl_Bs rfl w_250 wp_9 (ct_Bs_sendDown h hcap q 4 0 0) (Nat.le_of_ble_eq_true rfl) (Nat.le_of_ble_eq_true rfl) w_251 w_1 hy_Bs_sendDown w_248 rfl (Nat.le_of_ble_eq_true rfl) ⟨by decide, by decide⟩ d_Bs_finish_15 (fun rv M hp => ?_)
  obtain ⟨rfl, hq⟩ := hp
  refine V.eqst (st' := []) rfl (V.cs (k' := 0) (n' := 0) rfl rfl ?_)
  exact v_vret hQ C rfl d_Bs_finish_18 (by omega) (by omega) ⟨rfl, hq⟩
set_option maxHeartbeats 4000000 in
set_option maxRecDepth 100000 in
theorem ct_Bs_workSync {D : va_G} {l : Launch} {cI cZ cR cM : ClassId} {M : Mem} {ad : Nat → Nat} {G : G1} (h : R1 cI cR cM M ad G) (hc : cOK G) (hcap : G.N 3 < 16) (q : Int32) : Ct TT D cls (tyL cI cZ cR cM) l y_Bs_workSync b_Bs_workSync 2 none 3 71 0 0 [.ref (ad 0), .int q] M (fun rv M' => rv = none ∧ R1 cI cR cM M' ad ((G.wbn (G.N 1)).fin q)) := by
  refine ct_of "BlockTargetSession" rfl (by decide) (Nat.le_of_ble_eq_true rfl) ?_
  intro Z hl hD hnm hQ C
  subst hl
  subst hD
  show V cls 2 (rmOf 3 71 0 0) Z 0 [(0, .ref (ad 0)), (1, .int q)] [] M 0 0
  refine v_aload_n C (i := 0) d_Bs_workSync_0 rfl rfl ?_
  refine v_get C (v := .ref (ad 1)) in_Bs h.o cl_Bs 1 (by decide) w_104 rfl rfl d_Bs_workSync_1 ?_
  refine v_callV C (As := []) (rest := []) h.st cl_St rfl w_281 w_282 (ct_St_writeBackAll h hc) (Nat.le_of_ble_eq_true rfl) (Nat.le_of_ble_eq_true rfl) w_283 w_5 hy_St_writeBackAll w_280 rfl (Nat.le_of_ble_eq_true rfl) ⟨by decide, by decide⟩ d_Bs_workSync_4 (fun rv M hp => ?_)
  obtain ⟨rfl, h⟩ := hp
  refine V.eqst (st' := []) rfl (V.cs (k' := 0) (n' := 0) rfl rfl ?_)
  refine v_aload_n C (i := 0) d_Bs_workSync_7 rfl rfl ?_
  refine v_iload_n C (i := 1) d_Bs_workSync_8 rfl rfl ?_
  refine v_callV C (As := [.int q]) (rest := []) h.o cl_Bs rfl w_266 wp_11 (ct_Bs_finish h (by rw [wbn_N _ _ (by decide)]; exact hcap) q) (Nat.le_of_ble_eq_true rfl) (Nat.le_of_ble_eq_true rfl) w_267 w_1 hy_Bs_finish w_264 rfl (Nat.le_of_ble_eq_true rfl) ⟨by decide, by decide⟩ d_Bs_workSync_9 (fun rv M hp => ?_)
  obtain ⟨rfl, hq⟩ := hp
  refine V.eqst (st' := []) rfl (V.cs (k' := 0) (n' := 0) rfl rfl ?_)
  exact v_vret hQ C rfl d_Bs_workSync_12 (by omega) (by omega) ⟨rfl, hq⟩
set_option maxHeartbeats 4000000 in
set_option maxRecDepth 100000 in
theorem ct_Bs_workRead {D : va_G} {l : Launch} {cI cZ cR cM : ClassId} {M : Mem} {ad : Nat → Nat} {G : G1} (h : R1 cI cR cM M ad G) (hn : G.N 0 ≤ 120) (hc : cOK G) (q : Nat) (hq : q < G.N 0) (hr : rOK G q) (hcap : G.N 3 + cN G q < 16) : Ct TT D cls (tyL cI cZ cR cM) l y_Bs_workRead b_Bs_workRead 4 none 3 71 0 0 [.ref (ad 0), .int (nI q), .ref (ad (30 + 2 * q))] M (fun rv M' => rv = none ∧ R1 cI cR cM M' ad ((G.rdn (nI q) (fN G q) (cN G q)).fin (nI q))) := by
  refine ct_of "BlockTargetSession" rfl (by decide) (Nat.le_of_ble_eq_true rfl) ?_
  intro Z hl hD hnm hQ C
  subst hl
  subst hD
  show V cls 4 (rmOf 3 71 0 0) Z 0 [(0, .ref (ad 0)), (1, .int (nI q)), (2, .ref (ad (30 + 2 * q)))] [] M 0 0
  obtain ⟨r1, r2, r3, r4⟩ := hr.f
  refine v_iconst C (v := 0) d_Bs_workRead_0 (by decide) ?_
  refine v_istore_n C (i := 3) (lv' := [(3, .int 0), (0, .ref (ad 0)), (1, .int (nI q)), (2, .ref (ad (30 + 2 * q)))]) d_Bs_workRead_1 rfl (by decide) rfl ?_
  have L : ∀ (fu i : Nat) (M : Mem), cN G q - i < fu → i ≤ cN G q → R1 cI cR cM M ad (G.rdn (nI q) (fN G q) i) → V cls 4 (rmOf 3 71 0 0) Z 2 [(3, .int (nI i)), (0, .ref (ad 0)), (1, .int (nI q)), (2, .ref (ad (30 + 2 * q)))] [] M 0 0 := by
    intro fu
    induction fu with
    | zero => intro i M hf; omega
    | succ fu ih =>
      intro i M hf hi h
      have hrq : M (ad (30 + 2 * q)) = some (ob 2 [.int (G.T 3 q), .int (nI (fN G q)), .int (nI (cN G q)), .int (G.T 6 q), .ref (ad (31 + 2 * q)), .int (G.T 7 q)]) := by
        have z := h.rq q (by rw [rdn_N, if_neg (by decide)]; exact hq)
        simp only [rf] at z
        rw [rdn_T _ _ _ 3 (by decide), rdn_T _ _ _ 4 (by decide), rdn_T _ _ _ 5 (by decide), rdn_T _ _ _ 6 (by decide), rdn_T _ _ _ 7 (by decide), r1, r2] at z
        exact z
      refine v_iload_n C (i := 3) d_Bs_workRead_2 rfl rfl ?_
      refine v_aload_n C (i := 2) d_Bs_workRead_3 rfl rfl ?_
      refine v_get C (v := .int (nI (cN G q))) in_Rq hrq cl_Rq 2 (by decide) w_161 rfl rfl d_Bs_workRead_4 ?_
      refine v_icmp_ge C 36 d_Bs_workRead_7 (by decide) (fun c_7 => ?_) (fun c_7 => ?_)
      · have hi2 : i = cN G q := Nat.le_antisymm hi ((nI_leI (by omega) (by omega)).mp c_7)
        refine v_aload_n C (i := 0) d_Bs_workRead_36 rfl rfl ?_
        refine v_iload_n C (i := 1) d_Bs_workRead_37 rfl rfl ?_
        refine v_callV C (As := [.int (nI q)]) (rest := []) h.o cl_Bs rfl w_266 wp_11 (ct_Bs_finish h (by rw [rdn_N, if_pos rfl]; omega) (nI q)) (Nat.le_of_ble_eq_true rfl) (Nat.le_of_ble_eq_true rfl) w_267 w_1 hy_Bs_finish w_264 rfl (Nat.le_of_ble_eq_true rfl) ⟨by decide, by decide⟩ d_Bs_workRead_38 (fun rv M hp => ?_)
        obtain ⟨rfl, hq⟩ := hp
        refine V.eqst (st' := []) rfl (V.cs (k' := 0) (n' := 0) rfl rfl ?_)
        exact v_vret hQ C rfl d_Bs_workRead_41 (by omega) (by omega) ⟨rfl, by rw [← hi2]; exact hq⟩
      · have hi2 : i < cN G q := Nat.lt_of_not_le (fun z => c_7 ((nI_leI (by omega) (by omega)).mpr z))
        refine v_aload_n C (i := 0) d_Bs_workRead_10 rfl rfl ?_
        refine v_iload_n C (i := 1) d_Bs_workRead_11 rfl rfl ?_
        refine v_iconst C (v := 3) d_Bs_workRead_12 (by decide) ?_
        refine v_iload_n C (i := 3) d_Bs_workRead_13 rfl rfl ?_
        refine v_aload_n C (i := 0) d_Bs_workRead_14 rfl rfl ?_
        refine v_get C (v := .ref (ad 1)) in_Bs h.o cl_Bs 1 (by decide) w_104 rfl rfl d_Bs_workRead_15 ?_
        refine v_aload_n C (i := 2) d_Bs_workRead_18 rfl rfl ?_
        refine v_get C (v := .int (nI (fN G q))) in_Rq hrq cl_Rq 1 (by decide) w_159 rfl rfl d_Bs_workRead_19 ?_
        refine v_iload_n C (i := 3) d_Bs_workRead_22 rfl rfl ?_
        refine v_iadd C d_Bs_workRead_23 ?_
        refine V.eqst (st' := [.int (nI (fN G q + i)), .ref (ad 1), .int (nI i), .int 3, .int (nI q), .ref (ad 0)]) (by rw [nI_add]) ?_
        refine v_callV C (As := [.int (nI (fN G q + i))]) (rest := [.int (nI i), .int 3, .int (nI q), .ref (ad 0)]) h.st cl_St rfl w_273 w_274 (ct_St_presentInt h (rdn_cOK (nI q) (fN G q) hc i) (fN G q + i) (by omega)) (Nat.le_of_ble_eq_true rfl) (Nat.le_of_ble_eq_true rfl) w_275 w_5 hy_St_presentInt w_272 rfl (Nat.le_of_ble_eq_true rfl) ⟨by decide, by decide⟩ d_Bs_workRead_24 (fun rv M hp => ?_)
        obtain ⟨rfl, rfl⟩ := hp
        refine V.eqst (st' := [.int ((G.rdn (nI q) (fN G q) i).pv (fN G q + i)), .int (nI i), .int 3, .int (nI q), .ref (ad 0)]) rfl (V.cs (k' := 0) (n' := 0) rfl rfl ?_)
        refine V.eqst (st' := [.int (G.pv (fN G q + i)), .int (nI i), .int 3, .int (nI q), .ref (ad 0)]) (by rw [rdn_pv]) ?_
        refine v_callV C (As := [.int (nI q), .int 3, .int (nI i), .int (G.pv (fN G q + i))]) (rest := []) h.o cl_Bs rfl w_250 wp_9 (ct_Bs_sendDown h (by rw [rdn_N, if_pos rfl]; omega) (nI q) 3 (nI i) (G.pv (fN G q + i))) (Nat.le_of_ble_eq_true rfl) (Nat.le_of_ble_eq_true rfl) w_251 w_1 hy_Bs_sendDown w_248 rfl (Nat.le_of_ble_eq_true rfl) ⟨by decide, by decide⟩ d_Bs_workRead_27 (fun rv M hp => ?_)
        obtain ⟨rfl, hq2⟩ := hp
        rw [rdn_I] at hq2
        refine V.eqst (st' := []) rfl (V.cs (k' := 0) (n' := 0) rfl rfl ?_)
        refine v_iinc C (i := 3) (j := 0) (v := nI (i + 1)) (lv' := [(3, .int (nI (i + 1))), (0, .ref (ad 0)), (1, .int (nI q)), (2, .ref (ad (30 + 2 * q)))]) d_Bs_workRead_30 rfl (nI_1 i) (by decide) rfl ?_
        refine v_goto C 2 d_Bs_workRead_33 (by decide) ?_
        exact ih (i + 1) M (by omega) (by omega) hq2
  refine V.pick (lv' := [(3, .int (nI 0)), (0, .ref (ad 0)), (1, .int (nI q)), (2, .ref (ad (30 + 2 * q)))]) [0, 1, 2, 3] (by rw [nI_0]; rfl) ?_
  exact L (cN G q + 1) 0 M (by omega) (by omega) h
set_option maxHeartbeats 4000000 in
set_option maxRecDepth 100000 in
theorem ct_Bs_workPartOfWrite {D : va_G} {l : Launch} {cI cZ cR cM : ClassId} {M : Mem} {ad : Nat → Nat} {G : G1} (h : R1 cI cR cM M ad G) (hn : G.N 0 ≤ 120) (hc : cOK G) (q : Nat) (hq : q < G.N 0) (hr : rOK G q) (hcr : G.N 1 ≤ G.N 4) (hcap : G.N 3 < 16) (pt : Int32) : Ct TT D cls (tyL cI cZ cR cM) l y_Bs_workPartOfWrite b_Bs_workPartOfWrite 5 none 3 71 0 0 [.ref (ad 0), .int (nI q), .ref (ad (30 + 2 * q)), .int pt] M (fun rv M' => rv = none ∧ R1 cI cR cM M' ad (G.wp q pt)) := by
  refine ct_of "BlockTargetSession" rfl (by decide) (Nat.le_of_ble_eq_true rfl) ?_
  intro Z hl hD hnm hQ C
  subst hl
  subst hD
  show V cls 5 (rmOf 3 71 0 0) Z 0 [(0, .ref (ad 0)), (1, .int (nI q)), (2, .ref (ad (30 + 2 * q))), (3, .int pt)] [] M 0 0
  obtain ⟨r1, r2, r3, r4⟩ := hr.f
  have hrq : M (ad (30 + 2 * q)) = some (ob 2 [.int (G.T 3 q), .int (nI (fN G q)), .int (nI (cN G q)), .int (G.T 6 q), .ref (ad (31 + 2 * q)), .int (G.T 7 q)]) := by
    have z := h.rq q (by rw [show G.N 0 = G.N 0 from rfl]; exact hq)
    simp only [rf] at z
    rw [r1, r2] at z
    exact z
  refine v_iload_n C (i := 3) d_Bs_workPartOfWrite_0 rfl rfl ?_
  refine v_aload_n C (i := 2) d_Bs_workPartOfWrite_1 rfl rfl ?_
  refine v_get C (v := .int (nI (cN G q))) in_Rq hrq cl_Rq 2 (by decide) w_161 rfl rfl d_Bs_workPartOfWrite_2 ?_
  refine v_iconst C (v := 1) d_Bs_workPartOfWrite_5 (by decide) ?_
  refine v_isub C d_Bs_workPartOfWrite_6 ?_
  refine v_icmp_ge C 21 d_Bs_workPartOfWrite_7 (by decide) (fun c_7 => ?_) (fun c_7 => ?_)
  · refine v_iconst C (v := 0) d_Bs_workPartOfWrite_21 (by decide) ?_
    refine v_istore C (i := 4) (lv' := [(4, .int 0), (0, .ref (ad 0)), (1, .int (nI q)), (2, .ref (ad (30 + 2 * q))), (3, .int pt)]) d_Bs_workPartOfWrite_22 (by decide) rfl ?_
    have L : ∀ (fu i : Nat) (M : Mem), cN G q - i < fu → i ≤ cN G q → R1 cI cR cM M ad (G.ptn (fN G q) (G.T 6 q) i) → V cls 5 (rmOf 3 71 0 0) Z 24 [(4, .int (nI i)), (0, .ref (ad 0)), (1, .int (nI q)), (2, .ref (ad (30 + 2 * q))), (3, .int pt)] [] M 0 0 := by
      intro fu
      induction fu with
      | zero => intro i M hf; omega
      | succ fu ih =>
        intro i M hf hi h
        have hrq : M (ad (30 + 2 * q)) = some (ob 2 [.int (G.T 3 q), .int (nI (fN G q)), .int (nI (cN G q)), .int (G.T 6 q), .ref (ad (31 + 2 * q)), .int (G.T 7 q)]) := by
          have z := h.rq q (by rw [ptn_N _ _ _ _ (by decide)]; exact hq)
          simp only [rf] at z
          rw [ptn_T _ _ _ 3 (by decide), ptn_T _ _ _ 4 (by decide), ptn_T _ _ _ 5 (by decide), ptn_T _ _ _ 6 (by decide), ptn_T _ _ _ 7 (by decide), r1, r2] at z
          exact z
        refine v_iload C (i := 4) d_Bs_workPartOfWrite_24 rfl ?_
        refine v_aload_n C (i := 2) d_Bs_workPartOfWrite_26 rfl rfl ?_
        refine v_get C (v := .int (nI (cN G q))) in_Rq hrq cl_Rq 2 (by decide) w_161 rfl rfl d_Bs_workPartOfWrite_27 ?_
        refine v_icmp_ge C 60 d_Bs_workPartOfWrite_30 (by decide) (fun c_30 => ?_) (fun c_30 => ?_)
        · have hi2 : i = cN G q := Nat.le_antisymm hi ((nI_leI (by omega) (by omega)).mp c_30)
          refine v_aload_n C (i := 0) d_Bs_workPartOfWrite_60 rfl rfl ?_
          refine v_iload_n C (i := 1) d_Bs_workPartOfWrite_61 rfl rfl ?_
          refine v_callV C (As := [.int (nI q)]) (rest := []) h.o cl_Bs rfl w_266 wp_11 (ct_Bs_finish h (by rw [ptn_N _ _ _ _ (by decide)]; exact hcap) (nI q)) (Nat.le_of_ble_eq_true rfl) (Nat.le_of_ble_eq_true rfl) w_267 w_1 hy_Bs_finish w_264 rfl (Nat.le_of_ble_eq_true rfl) ⟨by decide, by decide⟩ d_Bs_workPartOfWrite_62 (fun rv M hp => ?_)
          obtain ⟨rfl, hq⟩ := hp
          refine V.eqst (st' := []) rfl (V.cs (k' := 0) (n' := 0) rfl rfl ?_)
          exact v_vret hQ C rfl d_Bs_workPartOfWrite_65 (by omega) (by omega) ⟨rfl, by rw [G1.wp, if_pos (by rw [r2]; exact c_7), ← hi2]; exact hq⟩
        · have hi2 : i < cN G q := Nat.lt_of_not_le (fun z => c_30 ((nI_leI (by omega) (by omega)).mpr z))
          refine v_aload_n C (i := 0) d_Bs_workPartOfWrite_33 rfl rfl ?_
          refine v_get C (v := .ref (ad 1)) in_Bs h.o cl_Bs 1 (by decide) w_104 rfl rfl d_Bs_workPartOfWrite_34 ?_
          refine v_aload_n C (i := 2) d_Bs_workPartOfWrite_37 rfl rfl ?_
          refine v_get C (v := .int (nI (fN G q))) in_Rq hrq cl_Rq 1 (by decide) w_159 rfl rfl d_Bs_workPartOfWrite_38 ?_
          refine v_iload C (i := 4) d_Bs_workPartOfWrite_41 rfl ?_
          refine v_iadd C d_Bs_workPartOfWrite_43 ?_
          refine V.eqst (st' := [.int (nI (fN G q + i)), .ref (ad 1)]) (by rw [nI_add]) ?_
          refine v_aload_n C (i := 2) d_Bs_workPartOfWrite_44 rfl rfl ?_
          refine v_get C (v := .int (G.T 6 q)) in_Rq hrq cl_Rq 3 (by decide) w_163 rfl rfl d_Bs_workPartOfWrite_45 ?_
          refine v_iload C (i := 4) d_Bs_workPartOfWrite_48 rfl ?_
          refine v_iadd C d_Bs_workPartOfWrite_50 ?_
          refine v_callV C (As := [.int (nI (fN G q + i)), .int ((G.T 6 q) + (nI i))]) (rest := []) h.st cl_St rfl w_253 w_254 (ct_St_put h (ptn_cOK (fN G q) (G.T 6 q) hc hcr i (by omega)).1 (ptn_cOK (fN G q) (G.T 6 q) hc hcr i (by omega)).2 (fN G q + i) (by omega) ((G.T 6 q) + (nI i))) (Nat.le_of_ble_eq_true rfl) (Nat.le_of_ble_eq_true rfl) w_255 w_5 hy_St_put w_252 rfl (Nat.le_of_ble_eq_true rfl) ⟨by decide, by decide⟩ d_Bs_workPartOfWrite_51 (fun rv M hp => ?_)
          obtain ⟨rfl, hq2⟩ := hp
          refine V.eqst (st' := []) rfl (V.cs (k' := 0) (n' := 0) rfl rfl ?_)
          refine v_iinc C (i := 4) (j := 0) (v := nI (i + 1)) (lv' := [(4, .int (nI (i + 1))), (0, .ref (ad 0)), (1, .int (nI q)), (2, .ref (ad (30 + 2 * q))), (3, .int pt)]) d_Bs_workPartOfWrite_54 rfl (nI_1 i) (by decide) rfl ?_
          refine v_goto C 24 d_Bs_workPartOfWrite_57 (by decide) ?_
          exact ih (i + 1) M (by omega) (by omega) hq2
    refine V.pick (lv' := [(4, .int (nI 0)), (0, .ref (ad 0)), (1, .int (nI q)), (2, .ref (ad (30 + 2 * q))), (3, .int pt)]) [0, 1, 2, 3, 4] (by rw [nI_0]; rfl) ?_
    exact L (cN G q + 1) 0 M (by omega) (by omega) h
  · refine v_aload_n C (i := 0) d_Bs_workPartOfWrite_10 rfl rfl ?_
    refine v_iload_n C (i := 1) d_Bs_workPartOfWrite_11 rfl rfl ?_
    refine v_iconst C (v := 2) d_Bs_workPartOfWrite_12 (by decide) ?_
    refine v_iload_n C (i := 3) d_Bs_workPartOfWrite_13 rfl rfl ?_
    refine v_iconst C (v := 1) d_Bs_workPartOfWrite_14 (by decide) ?_
    refine v_iadd C d_Bs_workPartOfWrite_15 ?_
    refine v_iconst C (v := 0) d_Bs_workPartOfWrite_16 (by decide) ?_
    refine v_callV C (As := [.int (nI q), .int 2, .int (pt + 1), .int 0]) (rest := []) h.o cl_Bs rfl w_250 wp_9 (ct_Bs_sendDown h hcap (nI q) 2 (pt + 1) 0) (Nat.le_of_ble_eq_true rfl) (Nat.le_of_ble_eq_true rfl) w_251 w_1 hy_Bs_sendDown w_248 rfl (Nat.le_of_ble_eq_true rfl) ⟨by decide, by decide⟩ d_Bs_workPartOfWrite_17 (fun rv M hp => ?_)
    obtain ⟨rfl, hq⟩ := hp
    refine V.eqst (st' := []) rfl (V.cs (k' := 0) (n' := 0) rfl rfl ?_)
    exact v_vret hQ C rfl d_Bs_workPartOfWrite_20 (by omega) (by omega) ⟨rfl, by rw [G1.wp, if_neg (by rw [r2]; exact c_7)]; exact hq⟩
