theorem tk_cOK {G : G1} (h : cOK G) (x m : Nat) (hx : x < 2) : cOK (G.tk x m) := by
  refine ⟨by rw [tk_N _ _ _ _ (by omega)]; exact h.1, by rw [tk_N _ _ _ _ (by omega), tk_N _ _ _ _ (by omega)]; exact h.2.1, fun j hj => ?_⟩
  rw [tk_N _ _ _ _ (by omega)] at hj
  rw [tk_T _ _ _ _ (by omega)]
  exact h.2.2 j hj
theorem tk_rOK {G : G1} {q : Nat} (h : rOK G q) (x m : Nat) (hx : x < 2) : rOK (G.tk x m) q := by
  obtain ⟨f, c, h1, h2, h3⟩ := h
  exact ⟨f, c, by rw [tk_T _ _ _ _ (by omega)]; exact h1, by rw [tk_T _ _ _ _ (by omega)]; exact h2, h3⟩
set_option maxHeartbeats 4000000 in
set_option maxRecDepth 100000 in
theorem ct_Bs_deliver {D : va_G} {l : Launch} {cI cZ cR cM : ClassId} {M : Mem} {ad : Nat → Nat} {G : G1} (h : R1 cI cR cM M ad G) (u : Int32) (hn : G.N 0 ≤ 120) (hc : cOK G) (hcr : G.N 1 ≤ G.N 4) (hrl : ∀ j, j < G.N 0 → rlen G j ≤ 200) (hsz : G.N (2 + lx u) ≤ cap (lx u)) (hU : ¬ u = 0 → 0 < G.N 2 → ∃ q, G.T 10 0 = nI q ∧ q < G.N 0 ∧ rOK G q ∧ G.N 3 ≤ 12) (hD : u = 0 → 0 < G.N 3 → ∃ q, G.T 20 0 = nI q ∧ q < G.N 0 ∧ (G.T 21 0 = 2 → G.N 2 < 4) ∧ (G.T 21 0 = 3 → ∃ k, G.T 22 0 = nI k ∧ k < rlen G q)) : Ct TT D cls (tyL cI cZ cR cM) l y_Bs_deliver b_Bs_deliver 3 (some .int) 5 117 0 0 [.ref (ad 0), .int u] M (fun rv M' => (G.I 1 = 0 ∧ rv = some (.int (-4)) ∧ R1 cI cR cM M' ad G) ∨ (¬ G.I 1 = 0 ∧ G.N (2 + lx u) = 0 ∧ rv = some (.int (-3)) ∧ R1 cI cR cM M' ad G) ∨ (¬ G.I 1 = 0 ∧ ∃ (ad' : Nat → Nat) (m : Nat), ad' 0 = ad 0 ∧ G.N (2 + lx u) = m + 1 ∧ ((¬ G.T (15 + 10 * lx u) 0 = 0 ∧ rv = some (.int (-5)) ∧ ∃ rr, (∀ j, G.T 7 j ≠ 1 → rr j = G.R j) ∧ R1 cI cR cM M' ad' ((G.tk (lx u) m).bk rr)) ∨ (G.T (15 + 10 * lx u) 0 = 0 ∧ ((¬ u = 0 ∧ ∃ q, (G.T 10 0 = nI q ∧ q < G.N 0) ∧ rv = some (.int (G.T (11 + 10 * lx u) 0)) ∧ R1 cI cR cM M' ad' ((G.tk 0 m).wk q (if G.T 11 0 = 1 then G.T 12 0 else 0))) ∨ (u = 0 ∧ ∃ q, (G.T 20 0 = nI q ∧ q < G.N 0) ∧ rv = some (.int (G.T (11 + 10 * lx u) 0)) ∧ R1 cI cR cM M' ad' ((G.tk 1 m).tki q (G.T 21 0) (G.T 22 0) (G.T 23 0) (G.T 24 0)))))))) := by
  refine ct_of "BlockTargetSession" rfl (by decide) (Nat.le_of_ble_eq_true rfl) ?_
  intro Z hl hD hnm hQ C
  subst hl
  subst hD
  show V cls 3 (rmOf 5 117 0 0) Z 0 [(0, .ref (ad 0)), (1, .int u)] [] M 0 0
  refine v_aload_n C (i := 0) d_Bs_deliver_0 rfl rfl ?_
  refine v_get C (v := .int (G.I 1)) in_Bs h.o cl_Bs 6 (by decide) w_109 rfl rfl d_Bs_deliver_1 ?_
  refine v_if_ne C 10 d_Bs_deliver_4 (by decide) (fun c_4 => ?_) (fun c_4 => ?_)
  · refine v_aload_n C (i := 0) d_Bs_deliver_10 rfl rfl ?_
    refine v_iload_n C (i := 1) d_Bs_deliver_11 rfl rfl ?_
    refine v_callV C (As := [.int u]) (rest := []) h.o cl_Bs rfl w_215 wp_4 (ct_Bs_lineOf h u) (Nat.le_of_ble_eq_true rfl) (Nat.le_of_ble_eq_true rfl) w_216 w_1 hy_Bs_lineOf w_213 rfl (Nat.le_of_ble_eq_true rfl) ⟨by decide, by decide⟩ d_Bs_deliver_12 (fun rv M hp => ?_)
    obtain ⟨rfl, rfl⟩ := hp
    refine V.eqst (st' := [.ref (ad (6 + 2 * lx u))]) rfl (V.cs (k' := 0) (n' := 0) rfl rfl ?_)
    refine v_callV C (As := []) (rest := []) (h.ln (lx u) (lx_lt u)) cl_Ln rfl w_218 w_219 (ct_Ln_takeOldest (sl := ad (7 + 2 * lx u)) (sz := G.N (2 + lx u)) (N := cap (lx u)) (g := fun j => if j < cap (lx u) then some (ad (mb (lx u) + j)) else none) (a := fun j => ad (mb (lx u) + j)) (h.ln (lx u) (lx_lt u)) (h.sl (lx u) (lx_lt u)) (by have := lx_lt u; simp only [cap]; omega) hsz (fun j hj => if_pos hj) (fun j hj => ⟨_, h.ms (lx u) j (lx_lt u) hj⟩)) (Nat.le_of_ble_eq_true rfl) (Nat.le_of_ble_eq_true rfl) w_220 w_2 hy_Ln_takeOldest w_217 rfl (Nat.le_of_ble_eq_true rfl) ⟨by decide, by decide⟩ d_Bs_deliver_15 (fun rv M hp => ?_)
    rcases hp with ⟨hz, rfl, rfl⟩ | ⟨m, g', hm, rfl, rfl, g1, g2, g3⟩
    · refine V.eqst (st' := [.null]) rfl (V.cs (k' := 0) (n' := 0) rfl rfl ?_)
      refine v_astore_nN C (i := 2) (lv' := [(2, .null), (0, .ref (ad 0)), (1, .int u)]) d_Bs_deliver_18 rfl (by decide) rfl ?_
      refine v_aload_nN C (i := 2) d_Bs_deliver_19 rfl rfl ?_
      refine v_ifnonnullN C d_Bs_deliver_20 ?_
      refine v_bipush C (v := (-3)) d_Bs_deliver_23 (by decide) ?_
      exact v_iret hQ C rfl d_Bs_deliver_25 (by omega) (by omega) (Or.inr (Or.inl ⟨c_4, hz, rfl, h⟩))
    · have hmc : m < cap (lx u) := by omega
      obtain ⟨ad, e0, em, h⟩ := h.tko2 (lx u) m (lx_lt u) hmc g1 g2 g3
      revert h
      generalize mset (mset _ _ _) _ _ = M
      intro h
      refine V.pick (lv' := [(0, .ref (ad 0)), (1, .int u)]) [0, 1] (by rw [e0]; rfl) ?_
      refine V.eqst (st' := [.ref (ad (mb (lx u) + m))]) (by rw [em]; rfl) (V.cs (k' := 0) (n' := 0) rfl rfl ?_)
      have t6 : mf (G.tk (lx u) m) (lx u) m = mf G (lx u) 0 := by
        simp only [mf]
        rw [tk_Tm _ _ _ _ _ (by omega), tk_Tm _ _ _ _ _ (by omega), tk_Tm _ _ _ _ _ (by omega), tk_Tm _ _ _ _ _ (by omega), tk_Tm _ _ _ _ _ (by omega), tk_Tm _ _ _ _ _ (by omega), rot_m]
      have hms : M (ad (mb (lx u) + m)) = some (ob 1 (mf G (lx u) 0)) := by rw [← t6]; exact h.ms (lx u) m (lx_lt u) hmc
      have n0 : (G.tk (lx u) m).N 0 = G.N 0 := tk_N _ _ _ _ (by omega)
      refine v_astore_n C (i := 2) (lv' := [(2, .ref (ad (mb (lx u) + m))), (0, .ref (ad 0)), (1, .int u)]) d_Bs_deliver_18 rfl (by decide) rfl ?_
      refine v_aload_n C (i := 2) d_Bs_deliver_19 rfl rfl ?_
      refine v_ifnonnull C 26 d_Bs_deliver_20 (by decide) ?_
      refine v_aload_n C (i := 2) d_Bs_deliver_26 rfl rfl ?_
      refine v_get C (v := .int (G.T (15 + 10 * lx u) 0)) in_Ms hms cl_Ms 5 (by decide) w_43 rfl rfl d_Bs_deliver_27 ?_
      refine v_if_eq C 40 d_Bs_deliver_30 (by decide) (fun c_30 => ?_) (fun c_30 => ?_)
      · refine v_iload_n C (i := 1) d_Bs_deliver_40 rfl rfl ?_
        refine v_if_eq C 52 d_Bs_deliver_41 (by decide) (fun c_41 => ?_) (fun c_41 => ?_)
        · have hx0 : lx u = 1 := by unfold lx; rw [if_pos c_41]
          rw [hx0] at h hm hmc n0 ⊢
          refine V.pick (lv' := [(2, .ref (ad (14 + m))), (0, .ref (ad 0)), (1, .int u)]) [0, 1, 2] rfl ?_
          obtain ⟨q, eq, hqn, hd, hpc⟩ := hD c_41 (by rw [show G.N 3 = G.N (2 + 1) from rfl, hm]; omega)
          refine v_aload_n C (i := 0) d_Bs_deliver_52 rfl rfl ?_
          refine v_aload_n C (i := 2) d_Bs_deliver_53 rfl rfl ?_
          refine v_callV C (As := [.ref (ad (14 + m))]) (rest := []) h.o cl_Bs rfl w_286 wp_14 (ct_Bs_takeAtInitiator h (by rw [n0]; exact hn) (fun j hj => by
            have z := hrl j (by rw [← n0]; exact hj)
            simp only [rlen] at z ⊢
            rw [tk_T _ _ _ 3 (by decide), tk_T _ _ _ 5 (by decide)]
            exact z) m hmc q (by rw [tk_Tm _ _ _ _ _ (by decide), rot_m]; exact eq) (by rw [n0]; exact hqn) (by rw [tk_Tm _ _ _ _ _ (by decide), rot_m, tk_N _ _ _ _ (by decide)]; exact hd) (by rw [tk_Tm _ _ _ _ _ (by decide), rot_m, tk_Tm _ _ _ _ _ (by decide), rot_m]; intro z; obtain ⟨k, k1, k2⟩ := hpc z; exact ⟨k, k1, by simp only [rlen] at k2 ⊢; rw [tk_T _ _ _ 3 (by decide), tk_T _ _ _ 5 (by decide)]; exact k2⟩)) (Nat.le_of_ble_eq_true rfl) (Nat.le_of_ble_eq_true rfl) w_287 w_1 hy_Bs_takeAtInitiator w_284 rfl (Nat.le_of_ble_eq_true rfl) ⟨by decide, by decide⟩ d_Bs_deliver_54 (fun rv M hp => ?_)
          obtain ⟨rfl, hw⟩ := hp
          refine V.eqst (st' := []) rfl (V.cs (k' := 0) (n' := 0) rfl rfl ?_)
          refine v_aload_n C (i := 2) d_Bs_deliver_57 rfl rfl ?_
          refine v_get C (v := .int (((G.tk 1 m).tki q ((G.tk 1 m).T 21 m) ((G.tk 1 m).T 22 m) ((G.tk 1 m).T 23 m) ((G.tk 1 m).T 24 m)).T 21 m)) in_Ms (hw.ms 1 m (by decide) hmc) cl_Ms 1 (by decide) w_35 rfl rfl d_Bs_deliver_58 ?_
          exact v_iret hQ C rfl d_Bs_deliver_61 (by omega) (by omega) (Or.inr (Or.inr ⟨c_4, ad, m, e0, by rw [hx0]; exact hm, Or.inr ⟨c_30, Or.inr ⟨c_41, q, ⟨eq, hqn⟩, by rw [hx0, tki_down _ _ _ _ _ _ _ (by decide), tk_Tm _ _ _ _ _ (by decide), rot_m], by rw [tk_Tm _ _ _ _ _ (by decide), tk_Tm _ _ _ _ _ (by decide), tk_Tm _ _ _ _ _ (by decide), tk_Tm _ _ _ _ _ (by decide), rot_m] at hw; exact hw⟩⟩⟩))
        · have hx0 : lx u = 0 := by unfold lx; rw [if_neg c_41]
          rw [hx0] at h hm hmc n0 ⊢
          refine V.pick (lv' := [(2, .ref (ad (10 + m))), (0, .ref (ad 0)), (1, .int u)]) [0, 1, 2] rfl ?_
          obtain ⟨q, eq, hqn, hr, hd⟩ := hU c_41 (by rw [show G.N 2 = G.N (2 + 0) from rfl, hm]; omega)
          refine v_aload_n C (i := 0) d_Bs_deliver_44 rfl rfl ?_
          refine v_aload_n C (i := 2) d_Bs_deliver_45 rfl rfl ?_
          refine v_callV C (As := [.ref (ad (10 + m))]) (rest := []) h.o cl_Bs rfl w_238 wp_6 (ct_Bs_workAtTarget h (by rw [n0]; exact hn) (tk_cOK hc 0 m (by decide)) (by rw [tk_N _ _ _ _ (by decide), tk_N _ _ _ _ (by decide)]; exact hcr) (by rw [tk_N _ _ _ _ (by decide)]; exact hd) m hmc q (by rw [tk_Tm _ _ _ _ _ (by decide), rot_m]; exact eq) (by rw [n0]; exact hqn) (tk_rOK hr 0 m (by decide))) (Nat.le_of_ble_eq_true rfl) (Nat.le_of_ble_eq_true rfl) w_239 w_1 hy_Bs_workAtTarget w_236 rfl (Nat.le_of_ble_eq_true rfl) ⟨by decide, by decide⟩ d_Bs_deliver_46 (fun rv M hp => ?_)
          obtain ⟨rfl, hw⟩ := hp
          refine V.eqst (st' := []) rfl (V.cs (k' := 0) (n' := 0) rfl rfl ?_)
          refine v_goto C 57 d_Bs_deliver_49 (by decide) ?_
          refine v_aload_n C (i := 2) d_Bs_deliver_57 rfl rfl ?_
          refine v_get C (v := .int (((G.tk 0 m).wk q (if (G.tk 0 m).T 11 m = 1 then (G.tk 0 m).T 12 m else 0)).T 11 m)) in_Ms (hw.ms 0 m (by decide) hmc) cl_Ms 1 (by decide) w_35 rfl rfl d_Bs_deliver_58 ?_
          exact v_iret hQ C rfl d_Bs_deliver_61 (by omega) (by omega) (Or.inr (Or.inr ⟨c_4, ad, m, e0, by rw [hx0]; exact hm, Or.inr ⟨c_30, Or.inl ⟨c_41, q, ⟨eq, hqn⟩, by rw [hx0, wk_up _ _ _ _ (by decide) (by decide), tk_Tm _ _ _ _ _ (by decide), rot_m], by rw [tk_Tm _ _ _ _ _ (by decide), tk_Tm _ _ _ _ _ (by decide), rot_m] at hw; exact hw⟩⟩⟩))
      · refine v_aload_n C (i := 0) d_Bs_deliver_33 rfl rfl ?_
        refine v_callV C (As := []) (rest := []) h.o cl_Bs rfl w_223 wp_5 (ct_Bs_breakSession h (by rw [n0]; exact hn) (fun j hj => by
          have z := hrl j (by rw [← n0]; exact hj)
          simp only [rlen] at z ⊢
          rw [tk_T _ _ _ 3 (by omega), tk_T _ _ _ 5 (by omega)]
          exact z)) (Nat.le_of_ble_eq_true rfl) (Nat.le_of_ble_eq_true rfl) w_224 w_1 hy_Bs_breakSession w_221 rfl (Nat.le_of_ble_eq_true rfl) ⟨by decide, by decide⟩ d_Bs_deliver_34 (fun rv M hp => ?_)
        obtain ⟨rfl, rr, hrr, hw⟩ := hp
        refine V.eqst (st' := []) rfl (V.cs (k' := 0) (n' := 0) rfl rfl ?_)
        refine v_bipush C (v := (-5)) d_Bs_deliver_37 (by decide) ?_
        exact v_iret hQ C rfl d_Bs_deliver_39 (by omega) (by omega) (Or.inr (Or.inr ⟨c_4, ad, m, e0, hm, Or.inl ⟨c_30, rfl, rr, (fun j hj => hrr j (by rw [tk_T _ _ _ 7 (by omega)]; exact hj)), hw⟩⟩))
  · refine v_bipush C (v := (-4)) d_Bs_deliver_7 (by decide) ?_
    exact v_iret hQ C rfl d_Bs_deliver_9 (by omega) (by omega) (Or.inl ⟨c_4, rfl, h⟩)
