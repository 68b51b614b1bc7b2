set_option maxHeartbeats 4000000 in
set_option maxRecDepth 100000 in
theorem ct_Md_deliverU {D : va_G} {l : Launch} {cI cZ cR cM : ClassId} {M : Mem} {ad : Nat → Nat} {G : G2} (h : R2 cI cZ M ad G) (u : Int32) (hu : ¬ u = 0) (n : Nat) (hn : G.I 3 = nI n) (hn120 : n ≤ 120) (su sd : Nat) (hsu : su < 60) (hsd : sd < 60) (hs0 : G.T 16 0 = nI su) (hs1 : G.T 16 1 = nI sd) (hz : ∀ j, G.T 15 j = 0 ∨ G.T 15 j = 1) (hq : 0 < su → ∃ q f c, G.T 10 0 = nI q ∧ q < 120 ∧ G.T 5 q = nI f ∧ G.T 6 q = nI c ∧ f + c ≤ 16 ∧ c ≤ 3) : Ct TT D cls (tyL cI cZ cR cM) l y_Md_deliver b_Md_deliver 10 (some .int) 5 115 0 0 [.ref (ad 0), .int u] M (fun rv M' => (G.I 4 = 0 ∧ rv = some (.int (-4)) ∧ R2 cI cZ M' ad G) ∨ (¬ G.I 4 = 0 ∧ su = 0 ∧ rv = some (.int (-3)) ∧ R2 cI cZ M' ad G) ∨ (¬ G.I 4 = 0 ∧ ∃ m, su = m + 1 ∧ ((¬ G.T 15 0 = 0 ∧ rv = some (.int (-5)) ∧ R2 cI cZ M' ad (G.end_ n)) ∨ (G.T 15 0 = 0 ∧ rv = some (.int (G.T 11 0)) ∧ ∃ (q f c : Nat), (G.T 10 0 = nI q ∧ q < 120) ∧ G.T 5 q = nI f ∧ (G.T 6 q = nI c ∧ f + c ≤ 16) ∧ ∃ G', (G.dlv 0 m).wkR q sd f c (if G.T 11 0 = 0 then 1 else G.T 12 0 + 1) G' ∧ R2 cI cZ M' ad G')))) := by
  refine ct_of "BlockTargetSessionModel" rfl (by decide) (Nat.le_of_ble_eq_true rfl) ?_
  intro Z hl hD hnm hQ C
  subst hl
  subst hD
  show V cls 10 (rmOf 5 115 0 0) Z 0 [(0, .ref (ad 0)), (1, .int u)] [] M 0 0
  refine v_iload_n C (i := 1) d_Md_deliver_0 rfl rfl ?_
  refine v_if_eq C 8 d_Md_deliver_1 (by decide) (fun c_1 => absurd c_1 (hu)) (fun c_1 => ?_)
  refine v_iconst C (v := 0) d_Md_deliver_4 (by decide) ?_
  refine v_goto C 9 d_Md_deliver_5 (by decide) ?_
  refine v_istore_n C (i := 2) (lv' := [(2, .int 0), (0, .ref (ad 0)), (1, .int u)]) d_Md_deliver_9 rfl (by decide) rfl ?_
  refine v_aload_n C (i := 0) d_Md_deliver_10 rfl rfl ?_
  refine v_get C (v := .int (G.I 4)) in_Md h.o cl_Md 20 (by decide) w_391 rfl rfl d_Md_deliver_11 ?_
  refine v_if_ne C 20 d_Md_deliver_14 (by decide) (fun c_14 => ?_) (fun c_14 => ?_)
  · refine v_aload_n C (i := 0) d_Md_deliver_20 rfl rfl ?_
    refine v_get C (v := .ref (ad 16)) in_Md h.o cl_Md 19 (by decide) w_390 rfl rfl d_Md_deliver_21 ?_
    refine v_iload_n C (i := 2) d_Md_deliver_24 rfl rfl ?_
    refine v_iald C (N := 2) (f := G.T 16) 0 h.hd rfl (pk_in 0 2 (by decide) (by decide)) d_Md_deliver_25 ?_
    refine V.eqst (st' := [.int (G.T 16 0)]) (by rw [show Int32.toNatClampNeg 0 = 0 from pk_cl _ (hx := by decide)]) ?_
    refine V.eqst (st' := [.int (nI su)]) (by rw [hs0]) ?_
    refine v_if_ne C 32 d_Md_deliver_26 (by decide) (fun c_26 => ?_) (fun c_26 => ?_)
    · obtain ⟨m, rfl⟩ : ∃ m, su = m + 1 := ⟨su - 1, by have : su ≠ 0 := fun z => c_26 (by rw [z]; exact nI_0); omega⟩
      refine v_iload_n C (i := 2) d_Md_deliver_32 rfl rfl ?_
      refine v_bipush C (v := 64) d_Md_deliver_33 (by decide) ?_
      refine v_imul C d_Md_deliver_35 ?_
      refine V.eqst (st' := [.int (nI 0)]) (by rw [show (0 : Int32) * 64 = nI 0 from by decide]) ?_
      refine v_istore_n C (i := 3) (lv' := [(3, .int (nI 0)), (2, .int 0), (0, .ref (ad 0)), (1, .int u)]) d_Md_deliver_36 rfl (by decide) rfl ?_
      refine v_aload_n C (i := 0) d_Md_deliver_37 rfl rfl ?_
      refine v_get C (v := .ref (ad 10)) in_Md h.o cl_Md 13 (by decide) w_384 rfl rfl d_Md_deliver_38 ?_
      refine v_iload_n C (i := 3) d_Md_deliver_41 rfl rfl ?_
      refine v_iald C (N := 128) (f := G.T 10) 0 (h.a 10 (by decide) (by decide)) rfl (pk_in 0 128 (by decide)) d_Md_deliver_42 ?_
      refine V.eqst (st' := [.int (G.T 10 0)]) (by rw [show Int32.toNatClampNeg (nI 0) = 0 from pk_cl _ (hx := rfl)]) ?_
      refine v_istore C (i := 4) (lv' := [(4, .int (G.T 10 0)), (3, .int (nI 0)), (2, .int 0), (0, .ref (ad 0)), (1, .int u)]) d_Md_deliver_43 (by decide) rfl ?_
      refine v_aload_n C (i := 0) d_Md_deliver_45 rfl rfl ?_
      refine v_get C (v := .ref (ad 11)) in_Md h.o cl_Md 14 (by decide) w_385 rfl rfl d_Md_deliver_46 ?_
      refine v_iload_n C (i := 3) d_Md_deliver_49 rfl rfl ?_
      refine v_iald C (N := 128) (f := G.T 11) 0 (h.a 11 (by decide) (by decide)) rfl (pk_in 0 128 (by decide)) d_Md_deliver_50 ?_
      refine V.eqst (st' := [.int (G.T 11 0)]) (by rw [show Int32.toNatClampNeg (nI 0) = 0 from pk_cl _ (hx := rfl)]) ?_
      refine v_istore C (i := 5) (lv' := [(5, .int (G.T 11 0)), (4, .int (G.T 10 0)), (3, .int (nI 0)), (2, .int 0), (0, .ref (ad 0)), (1, .int u)]) d_Md_deliver_51 (by decide) rfl ?_
      refine v_aload_n C (i := 0) d_Md_deliver_53 rfl rfl ?_
      refine v_get C (v := .ref (ad 12)) in_Md h.o cl_Md 15 (by decide) w_386 rfl rfl d_Md_deliver_54 ?_
      refine v_iload_n C (i := 3) d_Md_deliver_57 rfl rfl ?_
      refine v_iald C (N := 128) (f := G.T 12) 0 (h.a 12 (by decide) (by decide)) rfl (pk_in 0 128 (by decide)) d_Md_deliver_58 ?_
      refine V.eqst (st' := [.int (G.T 12 0)]) (by rw [show Int32.toNatClampNeg (nI 0) = 0 from pk_cl _ (hx := rfl)]) ?_
      refine v_istore C (i := 6) (lv' := [(6, .int (G.T 12 0)), (5, .int (G.T 11 0)), (4, .int (G.T 10 0)), (3, .int (nI 0)), (2, .int 0), (0, .ref (ad 0)), (1, .int u)]) d_Md_deliver_59 (by decide) rfl ?_
      refine v_aload_n C (i := 0) d_Md_deliver_61 rfl rfl ?_
      refine v_get C (v := .ref (ad 13)) in_Md h.o cl_Md 16 (by decide) w_387 rfl rfl d_Md_deliver_62 ?_
      refine v_iload_n C (i := 3) d_Md_deliver_65 rfl rfl ?_
      refine v_iald C (N := 128) (f := G.T 13) 0 (h.a 13 (by decide) (by decide)) rfl (pk_in 0 128 (by decide)) d_Md_deliver_66 ?_
      refine V.eqst (st' := [.int (G.T 13 0)]) (by rw [show Int32.toNatClampNeg (nI 0) = 0 from pk_cl _ (hx := rfl)]) ?_
      refine v_istore C (i := 7) (lv' := [(7, .int (G.T 13 0)), (6, .int (G.T 12 0)), (5, .int (G.T 11 0)), (4, .int (G.T 10 0)), (3, .int (nI 0)), (2, .int 0), (0, .ref (ad 0)), (1, .int u)]) d_Md_deliver_67 (by decide) rfl ?_
      refine v_aload_n C (i := 0) d_Md_deliver_69 rfl rfl ?_
      refine v_get C (v := .ref (ad 14)) in_Md h.o cl_Md 17 (by decide) w_388 rfl rfl d_Md_deliver_70 ?_
      refine v_iload_n C (i := 3) d_Md_deliver_73 rfl rfl ?_
      refine v_iald C (N := 128) (f := G.T 14) 0 (h.a 14 (by decide) (by decide)) rfl (pk_in 0 128 (by decide)) d_Md_deliver_74 ?_
      refine V.eqst (st' := [.int (G.T 14 0)]) (by rw [show Int32.toNatClampNeg (nI 0) = 0 from pk_cl _ (hx := rfl)]) ?_
      refine v_istore C (i := 8) (lv' := [(8, .int (G.T 14 0)), (7, .int (G.T 13 0)), (6, .int (G.T 12 0)), (5, .int (G.T 11 0)), (4, .int (G.T 10 0)), (3, .int (nI 0)), (2, .int 0), (0, .ref (ad 0)), (1, .int u)]) d_Md_deliver_75 (by decide) rfl ?_
      refine v_aload_n C (i := 0) d_Md_deliver_77 rfl rfl ?_
      refine v_get C (v := .ref (ad 15)) in_Md h.o cl_Md 18 (by decide) w_389 rfl rfl d_Md_deliver_78 ?_
      refine v_iload_n C (i := 3) d_Md_deliver_81 rfl rfl ?_
      refine v_zald C (N := 128) (f := G.T 15) 1 h.z rfl (pk_in 0 128 (by decide)) d_Md_deliver_82 ?_
      refine V.eqst (st' := [.int (G.T 15 0)]) (by rw [show Int32.toNatClampNeg (nI 0) = 0 from pk_cl _ (hx := rfl)]) ?_
      refine v_if_eq C 93 d_Md_deliver_83 (by decide) (fun c_83 => ?_) (fun c_83 => ?_)
      · refine v_aload_n C (i := 0) d_Md_deliver_93 rfl rfl ?_
        refine v_get C (v := .ref (ad 16)) in_Md h.o cl_Md 19 (by decide) w_390 rfl rfl d_Md_deliver_94 ?_
        refine v_iload_n C (i := 2) d_Md_deliver_97 rfl rfl ?_
        refine v_dup2_11 C d_Md_deliver_98 rfl rfl ?_
        refine v_iald C (N := 2) (f := G.T 16) 0 h.hd rfl (pk_in 0 2 (by decide) (by decide)) d_Md_deliver_99 ?_
        refine V.eqst (st' := [.int (G.T 16 0), .int 0, .ref (ad 16)]) (by rw [show Int32.toNatClampNeg 0 = 0 from pk_cl _ (hx := by decide)]) ?_
        refine V.eqst (st' := [.int (nI (m + 1)), .int 0, .ref (ad 16)]) (by rw [hs0]) ?_
        refine v_iconst C (v := 1) d_Md_deliver_100 (by decide) ?_
        refine v_isub C d_Md_deliver_101 ?_
        refine V.eqst (st' := [.int (nI m), .int 0, .ref (ad 16)]) (by rw [nI_pred]) ?_
        refine v_iast C (N := 2) (f := G.T 16) 0 h.hd rfl (pk_in 0 2 (by decide) (by decide)) d_Md_deliver_102 ?_
        rw [show Int32.toNatClampNeg 0 = 0 from pk_cl _ (hx := by decide)]
        have h : R2 cI cZ (mset M (ad 16) (aI cI 2 (upd (G.T 16) 0 (nI m)))) ad (G.sT 16 (upd (G.T 16) 0 (nI m))) := h.pa 16 (by decide) (by decide) (upd (G.T 16) 0 (nI m))
        revert h
        generalize mset M (ad 16) (aI cI 2 (upd (G.T 16) 0 (nI m))) = M
        intro h
        refine v_iload_n C (i := 3) d_Md_deliver_103 rfl rfl ?_
        refine v_istore C (i := 9) (lv' := [(9, .int (nI 0)), (8, .int (G.T 14 0)), (7, .int (G.T 13 0)), (6, .int (G.T 12 0)), (5, .int (G.T 11 0)), (4, .int (G.T 10 0)), (3, .int (nI 0)), (2, .int 0), (0, .ref (ad 0)), (1, .int u)]) d_Md_deliver_104 (by decide) rfl ?_
        obtain ⟨Gd, hGd⟩ : ∃ Gd, Gd = (G.sT 16 (upd (G.T 16) 0 (nI m))) := ⟨_, rfl⟩
        rw [← hGd] at h
        have e16 : Gd.T 16 0 = nI m := by rw [hGd, sT2_at, pk_us]
        have hzd : ∀ j, Gd.T 15 j = 0 ∨ Gd.T 15 j = 1 := by intro j; rw [hGd, sT2_ne _ _ _ _ (by decide)]; exact hz j
        have L : ∀ (fu i : Nat) (M : Mem), m - i < fu → i ≤ m → R2 cI cZ M ad (Gd.shf6 0 i) → V cls 10 (rmOf 5 115 0 0) Z 106 [(9, .int (nI (0 + i))), (8, .int (G.T 14 0)), (7, .int (G.T 13 0)), (6, .int (G.T 12 0)), (5, .int (G.T 11 0)), (4, .int (G.T 10 0)), (3, .int (nI 0)), (2, .int 0), (0, .ref (ad 0)), (1, .int u)] [] M 0 0 := by
          intro fu
          induction fu with
          | zero => intro i M hf; omega
          | succ fu ih =>
            intro i M hf hi h
            refine v_iload C (i := 9) d_Md_deliver_106 rfl ?_
            refine v_iload_n C (i := 3) d_Md_deliver_108 rfl rfl ?_
            refine v_aload_n C (i := 0) d_Md_deliver_109 rfl rfl ?_
            refine v_get C (v := .ref (ad 16)) in_Md h.o cl_Md 19 (by decide) w_390 rfl rfl d_Md_deliver_110 ?_
            refine v_iload_n C (i := 2) d_Md_deliver_113 rfl rfl ?_
            refine v_iald C (N := 2) (f := Gd.T 16) 0 h.hd rfl (pk_in 0 2 (by decide) (by decide)) d_Md_deliver_114 ?_
            refine V.eqst (st' := [.int (Gd.T 16 0), .int (nI 0), .int (nI (0 + i))]) (by rw [show Int32.toNatClampNeg 0 = 0 from pk_cl _ (hx := by decide)]) ?_
            refine V.eqst (st' := [.int (nI m), .int (nI 0), .int (nI (0 + i))]) (by rw [e16]) ?_
            refine v_iadd C d_Md_deliver_115 ?_
            refine V.eqst (st' := [.int (nI (0 + m)), .int (nI (0 + i))]) (by rw [nI_add]) ?_
            refine v_icmp_ge C 221 d_Md_deliver_116 (by decide) (fun c_116 => ?_) (fun c_116 => ?_)
            · have hi2 : i = m := Nat.le_antisymm hi (by have := (nI_leI (by omega) (by omega)).mp c_116; omega)
              subst hi2
              obtain ⟨q, f, c, eq, hq, hf, hc, hfc, hc3⟩ := hq (by omega)
              refine V.pick (lv' := [(9, .int (nI (0 + i))), (8, .int (G.T 14 0)), (7, .int (G.T 13 0)), (6, .int (G.T 12 0)), (5, .int (G.T 11 0)), (4, .int (nI q)), (3, .int (nI 0)), (2, .int 0), (0, .ref (ad 0)), (1, .int u)]) [0, 1, 2, 3, 4, 5, 6, 7, 8, 9] (by rw [← eq]; rfl) ?_
              have h : R2 cI cZ M ad (G.dlv 0 i) := by rw [hGd] at h; exact h
              refine v_iload_n C (i := 1) d_Md_deliver_221 rfl rfl ?_
              refine v_if_eq C 238 d_Md_deliver_222 (by decide) (fun c_222 => absurd c_222 (hu)) (fun c_222 => ?_)
              refine v_aload_n C (i := 0) d_Md_deliver_225 rfl rfl ?_
              refine v_iload C (i := 4) d_Md_deliver_226 rfl ?_
              refine v_iload C (i := 5) d_Md_deliver_228 rfl ?_
              refine v_iload C (i := 6) d_Md_deliver_230 rfl ?_
              refine v_callV C (As := [.int (nI q), .int (G.T 11 0), .int (G.T 12 0)]) (rest := []) h.o cl_Md rfl w_498 wp_22 (ct_Md_work h q hq f c (by rw [dlv_low _ _ _ _ (by decide)]; exact hf) (by rw [dlv_low _ _ _ _ (by decide)]; exact hc) hfc hc3 sd (by omega) (by rw [dlv_16, pk_un (by decide)]; exact hs1) (G.T 11 0) (G.T 12 0)) (Nat.le_of_ble_eq_true rfl) (Nat.le_of_ble_eq_true rfl) w_499 w_6 hy_Md_work w_496 rfl (Nat.le_of_ble_eq_true rfl) ⟨by decide, by decide⟩ d_Md_deliver_232 (fun rv M hp => ?_)
              obtain ⟨rfl, G', hwk, hw⟩ := hp
              refine V.eqst (st' := []) rfl (V.cs (k' := 0) (n' := 0) rfl rfl ?_)
              refine v_goto C 252 d_Md_deliver_235 (by decide) ?_
              refine v_iload C (i := 5) d_Md_deliver_252 rfl ?_
              exact v_iret hQ C rfl d_Md_deliver_254 (by omega) (by omega) (Or.inr (Or.inr ⟨c_14, i, rfl, Or.inr ⟨c_83, rfl, q, f, c, ⟨eq, hq⟩, hf, ⟨hc, hfc⟩, G', hwk, hw⟩⟩))
            · have hi2 : i < m := Nat.lt_of_not_le (fun z => c_116 ((nI_leI (by omega) (by omega)).mpr (by omega)))
              refine v_aload_n C (i := 0) d_Md_deliver_119 rfl rfl ?_
              refine v_get C (v := .ref (ad 10)) in_Md h.o cl_Md 13 (by decide) w_384 rfl rfl d_Md_deliver_120 ?_
              refine v_iload C (i := 9) d_Md_deliver_123 rfl ?_
              refine v_aload_n C (i := 0) d_Md_deliver_125 rfl rfl ?_
              refine v_get C (v := .ref (ad 10)) in_Md h.o cl_Md 13 (by decide) w_384 rfl rfl d_Md_deliver_126 ?_
              refine v_iload C (i := 9) d_Md_deliver_129 rfl ?_
              refine v_iconst C (v := 1) d_Md_deliver_131 (by decide) ?_
              refine v_iadd C d_Md_deliver_132 ?_
              refine V.eqst (st' := [.int (nI (0 + i + 1)), .ref (ad 10), .int (nI (0 + i)), .ref (ad 10)]) (by rw [nI_1]) ?_
              refine v_iald C (N := 128) (f := shb (Gd.T 10) 0 i) 0 (h.a 10 (by decide) (by decide)) rfl (pk_in (0 + i + 1) 128 (by omega)) d_Md_deliver_133 ?_
              refine V.eqst (st' := [.int ((shb (Gd.T 10) 0 i) (0 + i + 1)), .int (nI (0 + i)), .ref (ad 10)]) (by rw [show Int32.toNatClampNeg (nI (0 + i + 1)) = 0 + i + 1 from pk_cl _ (hx := rfl)]) ?_
              refine V.eqst (st' := [.int (Gd.T 10 (0 + i + 1)), .int (nI (0 + i)), .ref (ad 10)]) (by rw [shb_at]) ?_
              refine v_iast C (N := 128) (f := shb (Gd.T 10) 0 i) 0 (h.a 10 (by decide) (by decide)) rfl (pk_in (0 + i) 128 (by omega)) d_Md_deliver_134 ?_
              rw [show Int32.toNatClampNeg (nI (0 + i)) = 0 + i from pk_cl _ (hx := rfl)]
              have h : R2 cI cZ (mset M (ad 10) (aI cI 128 (upd (shb (Gd.T 10) 0 i) (0 + i) (Gd.T 10 (0 + i + 1))))) ad ((Gd.shf6 0 i).sT 10 (upd (shb (Gd.T 10) 0 i) (0 + i) (Gd.T 10 (0 + i + 1)))) := h.pa 10 (by decide) (by decide) (upd (shb (Gd.T 10) 0 i) (0 + i) (Gd.T 10 (0 + i + 1)))
              revert h
              generalize mset M (ad 10) (aI cI 128 (upd (shb (Gd.T 10) 0 i) (0 + i) (Gd.T 10 (0 + i + 1)))) = M
              intro h
              refine v_aload_n C (i := 0) d_Md_deliver_135 rfl rfl ?_
              refine v_get C (v := .ref (ad 11)) in_Md h.o cl_Md 14 (by decide) w_385 rfl rfl d_Md_deliver_136 ?_
              refine v_iload C (i := 9) d_Md_deliver_139 rfl ?_
              refine v_aload_n C (i := 0) d_Md_deliver_141 rfl rfl ?_
              refine v_get C (v := .ref (ad 11)) in_Md h.o cl_Md 14 (by decide) w_385 rfl rfl d_Md_deliver_142 ?_
              refine v_iload C (i := 9) d_Md_deliver_145 rfl ?_
              refine v_iconst C (v := 1) d_Md_deliver_147 (by decide) ?_
              refine v_iadd C d_Md_deliver_148 ?_
              refine V.eqst (st' := [.int (nI (0 + i + 1)), .ref (ad 11), .int (nI (0 + i)), .ref (ad 11)]) (by rw [nI_1]) ?_
              refine v_iald C (N := 128) (f := shb (Gd.T 11) 0 i) 0 (h.a 11 (by decide) (by decide)) rfl (pk_in (0 + i + 1) 128 (by omega)) d_Md_deliver_149 ?_
              refine V.eqst (st' := [.int ((shb (Gd.T 11) 0 i) (0 + i + 1)), .int (nI (0 + i)), .ref (ad 11)]) (by rw [show Int32.toNatClampNeg (nI (0 + i + 1)) = 0 + i + 1 from pk_cl _ (hx := rfl)]) ?_
              refine V.eqst (st' := [.int (Gd.T 11 (0 + i + 1)), .int (nI (0 + i)), .ref (ad 11)]) (by rw [shb_at]) ?_
              refine v_iast C (N := 128) (f := shb (Gd.T 11) 0 i) 0 (h.a 11 (by decide) (by decide)) rfl (pk_in (0 + i) 128 (by omega)) d_Md_deliver_150 ?_
              rw [show Int32.toNatClampNeg (nI (0 + i)) = 0 + i from pk_cl _ (hx := rfl)]
              have h : R2 cI cZ (mset M (ad 11) (aI cI 128 (upd (shb (Gd.T 11) 0 i) (0 + i) (Gd.T 11 (0 + i + 1))))) ad (((Gd.shf6 0 i).sT 10 (upd (shb (Gd.T 10) 0 i) (0 + i) (Gd.T 10 (0 + i + 1)))).sT 11 (upd (shb (Gd.T 11) 0 i) (0 + i) (Gd.T 11 (0 + i + 1)))) := h.pa 11 (by decide) (by decide) (upd (shb (Gd.T 11) 0 i) (0 + i) (Gd.T 11 (0 + i + 1)))
              revert h
              generalize mset M (ad 11) (aI cI 128 (upd (shb (Gd.T 11) 0 i) (0 + i) (Gd.T 11 (0 + i + 1)))) = M
              intro h
              refine v_aload_n C (i := 0) d_Md_deliver_151 rfl rfl ?_
              refine v_get C (v := .ref (ad 12)) in_Md h.o cl_Md 15 (by decide) w_386 rfl rfl d_Md_deliver_152 ?_
              refine v_iload C (i := 9) d_Md_deliver_155 rfl ?_
              refine v_aload_n C (i := 0) d_Md_deliver_157 rfl rfl ?_
              refine v_get C (v := .ref (ad 12)) in_Md h.o cl_Md 15 (by decide) w_386 rfl rfl d_Md_deliver_158 ?_
              refine v_iload C (i := 9) d_Md_deliver_161 rfl ?_
              refine v_iconst C (v := 1) d_Md_deliver_163 (by decide) ?_
              refine v_iadd C d_Md_deliver_164 ?_
              refine V.eqst (st' := [.int (nI (0 + i + 1)), .ref (ad 12), .int (nI (0 + i)), .ref (ad 12)]) (by rw [nI_1]) ?_
              refine v_iald C (N := 128) (f := shb (Gd.T 12) 0 i) 0 (h.a 12 (by decide) (by decide)) rfl (pk_in (0 + i + 1) 128 (by omega)) d_Md_deliver_165 ?_
              refine V.eqst (st' := [.int ((shb (Gd.T 12) 0 i) (0 + i + 1)), .int (nI (0 + i)), .ref (ad 12)]) (by rw [show Int32.toNatClampNeg (nI (0 + i + 1)) = 0 + i + 1 from pk_cl _ (hx := rfl)]) ?_
              refine V.eqst (st' := [.int (Gd.T 12 (0 + i + 1)), .int (nI (0 + i)), .ref (ad 12)]) (by rw [shb_at]) ?_
              refine v_iast C (N := 128) (f := shb (Gd.T 12) 0 i) 0 (h.a 12 (by decide) (by decide)) rfl (pk_in (0 + i) 128 (by omega)) d_Md_deliver_166 ?_
              rw [show Int32.toNatClampNeg (nI (0 + i)) = 0 + i from pk_cl _ (hx := rfl)]
              have h : R2 cI cZ (mset M (ad 12) (aI cI 128 (upd (shb (Gd.T 12) 0 i) (0 + i) (Gd.T 12 (0 + i + 1))))) ad ((((Gd.shf6 0 i).sT 10 (upd (shb (Gd.T 10) 0 i) (0 + i) (Gd.T 10 (0 + i + 1)))).sT 11 (upd (shb (Gd.T 11) 0 i) (0 + i) (Gd.T 11 (0 + i + 1)))).sT 12 (upd (shb (Gd.T 12) 0 i) (0 + i) (Gd.T 12 (0 + i + 1)))) := h.pa 12 (by decide) (by decide) (upd (shb (Gd.T 12) 0 i) (0 + i) (Gd.T 12 (0 + i + 1)))
              revert h
              generalize mset M (ad 12) (aI cI 128 (upd (shb (Gd.T 12) 0 i) (0 + i) (Gd.T 12 (0 + i + 1)))) = M
              intro h
              refine v_aload_n C (i := 0) d_Md_deliver_167 rfl rfl ?_
              refine v_get C (v := .ref (ad 13)) in_Md h.o cl_Md 16 (by decide) w_387 rfl rfl d_Md_deliver_168 ?_
              refine v_iload C (i := 9) d_Md_deliver_171 rfl ?_
              refine v_aload_n C (i := 0) d_Md_deliver_173 rfl rfl ?_
              refine v_get C (v := .ref (ad 13)) in_Md h.o cl_Md 16 (by decide) w_387 rfl rfl d_Md_deliver_174 ?_
              refine v_iload C (i := 9) d_Md_deliver_177 rfl ?_
              refine v_iconst C (v := 1) d_Md_deliver_179 (by decide) ?_
              refine v_iadd C d_Md_deliver_180 ?_
              refine V.eqst (st' := [.int (nI (0 + i + 1)), .ref (ad 13), .int (nI (0 + i)), .ref (ad 13)]) (by rw [nI_1]) ?_
              refine v_iald C (N := 128) (f := shb (Gd.T 13) 0 i) 0 (h.a 13 (by decide) (by decide)) rfl (pk_in (0 + i + 1) 128 (by omega)) d_Md_deliver_181 ?_
              refine V.eqst (st' := [.int ((shb (Gd.T 13) 0 i) (0 + i + 1)), .int (nI (0 + i)), .ref (ad 13)]) (by rw [show Int32.toNatClampNeg (nI (0 + i + 1)) = 0 + i + 1 from pk_cl _ (hx := rfl)]) ?_
              refine V.eqst (st' := [.int (Gd.T 13 (0 + i + 1)), .int (nI (0 + i)), .ref (ad 13)]) (by rw [shb_at]) ?_
              refine v_iast C (N := 128) (f := shb (Gd.T 13) 0 i) 0 (h.a 13 (by decide) (by decide)) rfl (pk_in (0 + i) 128 (by omega)) d_Md_deliver_182 ?_
              rw [show Int32.toNatClampNeg (nI (0 + i)) = 0 + i from pk_cl _ (hx := rfl)]
              have h : R2 cI cZ (mset M (ad 13) (aI cI 128 (upd (shb (Gd.T 13) 0 i) (0 + i) (Gd.T 13 (0 + i + 1))))) ad (((((Gd.shf6 0 i).sT 10 (upd (shb (Gd.T 10) 0 i) (0 + i) (Gd.T 10 (0 + i + 1)))).sT 11 (upd (shb (Gd.T 11) 0 i) (0 + i) (Gd.T 11 (0 + i + 1)))).sT 12 (upd (shb (Gd.T 12) 0 i) (0 + i) (Gd.T 12 (0 + i + 1)))).sT 13 (upd (shb (Gd.T 13) 0 i) (0 + i) (Gd.T 13 (0 + i + 1)))) := h.pa 13 (by decide) (by decide) (upd (shb (Gd.T 13) 0 i) (0 + i) (Gd.T 13 (0 + i + 1)))
              revert h
              generalize mset M (ad 13) (aI cI 128 (upd (shb (Gd.T 13) 0 i) (0 + i) (Gd.T 13 (0 + i + 1)))) = M
              intro h
              refine v_aload_n C (i := 0) d_Md_deliver_183 rfl rfl ?_
              refine v_get C (v := .ref (ad 14)) in_Md h.o cl_Md 17 (by decide) w_388 rfl rfl d_Md_deliver_184 ?_
              refine v_iload C (i := 9) d_Md_deliver_187 rfl ?_
              refine v_aload_n C (i := 0) d_Md_deliver_189 rfl rfl ?_
              refine v_get C (v := .ref (ad 14)) in_Md h.o cl_Md 17 (by decide) w_388 rfl rfl d_Md_deliver_190 ?_
              refine v_iload C (i := 9) d_Md_deliver_193 rfl ?_
              refine v_iconst C (v := 1) d_Md_deliver_195 (by decide) ?_
              refine v_iadd C d_Md_deliver_196 ?_
              refine V.eqst (st' := [.int (nI (0 + i + 1)), .ref (ad 14), .int (nI (0 + i)), .ref (ad 14)]) (by rw [nI_1]) ?_
              refine v_iald C (N := 128) (f := shb (Gd.T 14) 0 i) 0 (h.a 14 (by decide) (by decide)) rfl (pk_in (0 + i + 1) 128 (by omega)) d_Md_deliver_197 ?_
              refine V.eqst (st' := [.int ((shb (Gd.T 14) 0 i) (0 + i + 1)), .int (nI (0 + i)), .ref (ad 14)]) (by rw [show Int32.toNatClampNeg (nI (0 + i + 1)) = 0 + i + 1 from pk_cl _ (hx := rfl)]) ?_
              refine V.eqst (st' := [.int (Gd.T 14 (0 + i + 1)), .int (nI (0 + i)), .ref (ad 14)]) (by rw [shb_at]) ?_
              refine v_iast C (N := 128) (f := shb (Gd.T 14) 0 i) 0 (h.a 14 (by decide) (by decide)) rfl (pk_in (0 + i) 128 (by omega)) d_Md_deliver_198 ?_
              rw [show Int32.toNatClampNeg (nI (0 + i)) = 0 + i from pk_cl _ (hx := rfl)]
              have h : R2 cI cZ (mset M (ad 14) (aI cI 128 (upd (shb (Gd.T 14) 0 i) (0 + i) (Gd.T 14 (0 + i + 1))))) ad ((((((Gd.shf6 0 i).sT 10 (upd (shb (Gd.T 10) 0 i) (0 + i) (Gd.T 10 (0 + i + 1)))).sT 11 (upd (shb (Gd.T 11) 0 i) (0 + i) (Gd.T 11 (0 + i + 1)))).sT 12 (upd (shb (Gd.T 12) 0 i) (0 + i) (Gd.T 12 (0 + i + 1)))).sT 13 (upd (shb (Gd.T 13) 0 i) (0 + i) (Gd.T 13 (0 + i + 1)))).sT 14 (upd (shb (Gd.T 14) 0 i) (0 + i) (Gd.T 14 (0 + i + 1)))) := h.pa 14 (by decide) (by decide) (upd (shb (Gd.T 14) 0 i) (0 + i) (Gd.T 14 (0 + i + 1)))
              revert h
              generalize mset M (ad 14) (aI cI 128 (upd (shb (Gd.T 14) 0 i) (0 + i) (Gd.T 14 (0 + i + 1)))) = M
              intro h
              refine v_aload_n C (i := 0) d_Md_deliver_199 rfl rfl ?_
              refine v_get C (v := .ref (ad 15)) in_Md h.o cl_Md 18 (by decide) w_389 rfl rfl d_Md_deliver_200 ?_
              refine v_iload C (i := 9) d_Md_deliver_203 rfl ?_
              refine v_aload_n C (i := 0) d_Md_deliver_205 rfl rfl ?_
              refine v_get C (v := .ref (ad 15)) in_Md h.o cl_Md 18 (by decide) w_389 rfl rfl d_Md_deliver_206 ?_
              refine v_iload C (i := 9) d_Md_deliver_209 rfl ?_
              refine v_iconst C (v := 1) d_Md_deliver_211 (by decide) ?_
              refine v_iadd C d_Md_deliver_212 ?_
              refine V.eqst (st' := [.int (nI (0 + i + 1)), .ref (ad 15), .int (nI (0 + i)), .ref (ad 15)]) (by rw [nI_1]) ?_
              refine v_zald C (N := 128) (f := shb (Gd.T 15) 0 i) 1 h.z rfl (pk_in (0 + i + 1) 128 (by omega)) d_Md_deliver_213 ?_
              refine V.eqst (st' := [.int ((shb (Gd.T 15) 0 i) (0 + i + 1)), .int (nI (0 + i)), .ref (ad 15)]) (by rw [show Int32.toNatClampNeg (nI (0 + i + 1)) = 0 + i + 1 from pk_cl _ (hx := rfl)]) ?_
              refine V.eqst (st' := [.int (Gd.T 15 (0 + i + 1)), .int (nI (0 + i)), .ref (ad 15)]) (by rw [shb_at]) ?_
              refine v_zast C (N := 128) (f := shb (Gd.T 15) 0 i) 1 h.z rfl (pk_in (0 + i) 128 (by omega)) (y := (Gd.T 15 (0 + i + 1))) (nar01 (hzd _)) d_Md_deliver_214 ?_
              rw [show Int32.toNatClampNeg (nI (0 + i)) = 0 + i from pk_cl _ (hx := rfl)]
              have h : R2 cI cZ (mset M (ad 15) (aI cZ 128 (upd (shb (Gd.T 15) 0 i) (0 + i) (Gd.T 15 (0 + i + 1))))) ad (((((((Gd.shf6 0 i).sT 10 (upd (shb (Gd.T 10) 0 i) (0 + i) (Gd.T 10 (0 + i + 1)))).sT 11 (upd (shb (Gd.T 11) 0 i) (0 + i) (Gd.T 11 (0 + i + 1)))).sT 12 (upd (shb (Gd.T 12) 0 i) (0 + i) (Gd.T 12 (0 + i + 1)))).sT 13 (upd (shb (Gd.T 13) 0 i) (0 + i) (Gd.T 13 (0 + i + 1)))).sT 14 (upd (shb (Gd.T 14) 0 i) (0 + i) (Gd.T 14 (0 + i + 1)))).sT 15 (upd (shb (Gd.T 15) 0 i) (0 + i) (Gd.T 15 (0 + i + 1)))) := h.pa 15 (by decide) (by decide) (upd (shb (Gd.T 15) 0 i) (0 + i) (Gd.T 15 (0 + i + 1)))
              revert h
              generalize mset M (ad 15) (aI cZ 128 (upd (shb (Gd.T 15) 0 i) (0 + i) (Gd.T 15 (0 + i + 1)))) = M
              intro h
              refine v_iinc C (i := 9) (j := 0) (v := nI (0 + (i + 1))) (lv' := [(9, .int (nI (0 + (i + 1)))), (8, .int (G.T 14 0)), (7, .int (G.T 13 0)), (6, .int (G.T 12 0)), (5, .int (G.T 11 0)), (4, .int (G.T 10 0)), (3, .int (nI 0)), (2, .int 0), (0, .ref (ad 0)), (1, .int u)]) d_Md_deliver_215 rfl (nI_1 _) (by decide) rfl ?_
              refine v_goto C 106 d_Md_deliver_218 (by decide) ?_
              rw [shf6_s] at h
              refine V.pick (lv' := [(9, .int (nI (0 + (i + 1)))), (8, .int (G.T 14 0)), (7, .int (G.T 13 0)), (6, .int (G.T 12 0)), (5, .int (G.T 11 0)), (4, .int (G.T 10 0)), (3, .int (nI 0)), (2, .int 0), (0, .ref (ad 0)), (1, .int u)]) [0, 1, 2, 3, 4, 5, 6, 7, 8, 9] rfl ?_
              exact ih (i + 1) M (by omega) (by omega) h
        refine V.pick (lv' := [(9, .int (nI 0)), (8, .int (G.T 14 0)), (7, .int (G.T 13 0)), (6, .int (G.T 12 0)), (5, .int (G.T 11 0)), (4, .int (G.T 10 0)), (3, .int (nI 0)), (2, .int 0), (0, .ref (ad 0)), (1, .int u)]) [0, 1, 2, 3, 4, 5, 6, 7, 8, 9] rfl ?_
        refine V.pick (lv' := [(9, .int (nI (0 + 0))), (8, .int (G.T 14 0)), (7, .int (G.T 13 0)), (6, .int (G.T 12 0)), (5, .int (G.T 11 0)), (4, .int (G.T 10 0)), (3, .int (nI 0)), (2, .int 0), (0, .ref (ad 0)), (1, .int u)]) [0, 1, 2, 3, 4, 5, 6, 7, 8, 9] rfl ?_
        refine L (m + 1) 0 M (by omega) (by omega) ?_
        rw [shf6_0]
        exact h
      · refine v_aload_n C (i := 0) d_Md_deliver_86 rfl rfl ?_
        refine v_callV C (As := []) (rest := []) h.o cl_Md rfl w_494 wp_21 (ct_Md_end h n hn hn120) (Nat.le_of_ble_eq_true rfl) (Nat.le_of_ble_eq_true rfl) w_495 w_6 hy_Md_end w_492 rfl (Nat.le_of_ble_eq_true rfl) ⟨by decide, by decide⟩ d_Md_deliver_87 (fun rv M hp => ?_)
        obtain ⟨rfl, hw⟩ := hp
        refine V.eqst (st' := []) rfl (V.cs (k' := 0) (n' := 0) rfl rfl ?_)
        refine v_bipush C (v := (-5)) d_Md_deliver_90 (by decide) ?_
        exact v_iret hQ C rfl d_Md_deliver_92 (by omega) (by omega) (Or.inr (Or.inr ⟨c_14, m, rfl, Or.inl ⟨c_83, rfl, hw⟩⟩))
    · have hz0 : su = 0 := Classical.byContradiction fun z => nI_ne0 (Nat.pos_of_ne_zero z) (by omega) c_26
      refine v_bipush C (v := (-3)) d_Md_deliver_29 (by decide) ?_
      exact v_iret hQ C rfl d_Md_deliver_31 (by omega) (by omega) (Or.inr (Or.inl ⟨c_14, hz0, rfl, h⟩))
  · refine v_bipush C (v := (-4)) d_Md_deliver_17 (by decide) ?_
    exact v_iret hQ C rfl d_Md_deliver_19 (by omega) (by omega) (Or.inl ⟨c_14, rfl, h⟩)
set_option maxHeartbeats 4000000 in
set_option maxRecDepth 100000 in
theorem ct_Md_deliverD {D : va_G} {l : Launch} {cI cZ cR cM : ClassId} {M : Mem} {ad : Nat → Nat} {G : G2} (h : R2 cI cZ M ad G) (u : Int32) (hu : u = 0) (n : Nat) (hn : G.I 3 = nI n) (hn120 : n ≤ 120) (su sd : Nat) (hsu : su < 60) (hsd : sd < 60) (hs0 : G.T 16 0 = nI su) (hs1 : G.T 16 1 = nI sd) (hz : ∀ j, G.T 15 j = 0 ∨ G.T 15 j = 1) (hq : 0 < sd → ∃ q, G.T 10 64 = nI q ∧ q < 120 ∧ (G.T 11 64 = 3 → ∃ k, G.T 12 64 = nI k ∧ k < 3)) : Ct TT D cls (tyL cI cZ cR cM) l y_Md_deliver b_Md_deliver 10 (some .int) 5 115 0 0 [.ref (ad 0), .int u] M (fun rv M' => (G.I 4 = 0 ∧ rv = some (.int (-4)) ∧ R2 cI cZ M' ad G) ∨ (¬ G.I 4 = 0 ∧ sd = 0 ∧ rv = some (.int (-3)) ∧ R2 cI cZ M' ad G) ∨ (¬ G.I 4 = 0 ∧ ∃ m, sd = m + 1 ∧ ((¬ G.T 15 64 = 0 ∧ rv = some (.int (-5)) ∧ R2 cI cZ M' ad (G.end_ n)) ∨ (G.T 15 64 = 0 ∧ rv = some (.int (G.T 11 64)) ∧ ∃ (q k : Nat), (G.T 10 64 = nI q ∧ q < 120) ∧ (G.T 11 64 = 3 → G.T 12 64 = nI k ∧ k < 3) ∧ R2 cI cZ M' ad (((((G.dlv 1 m).cr (G.T 14 64)).asF q su (G.T 11 64) (G.T 12 64)).pcF q k (G.T 11 64) (G.T 13 64)).tk4 q (G.T 11 64)))))) := by
  refine ct_of "BlockTargetSessionModel" rfl (by decide) (Nat.le_of_ble_eq_true rfl) ?_
  intro Z hl hD hnm hQ C
  subst hl
  subst hD
  show V cls 10 (rmOf 5 115 0 0) Z 0 [(0, .ref (ad 0)), (1, .int u)] [] M 0 0
  refine v_iload_n C (i := 1) d_Md_deliver_0 rfl rfl ?_
  refine v_if_eq C 8 d_Md_deliver_1 (by decide) (fun c_1 => ?_) (fun c_1 => absurd (hu) c_1)
  refine v_iconst C (v := 1) d_Md_deliver_8 (by decide) ?_
  refine v_istore_n C (i := 2) (lv' := [(2, .int 1), (0, .ref (ad 0)), (1, .int u)]) d_Md_deliver_9 rfl (by decide) rfl ?_
  refine v_aload_n C (i := 0) d_Md_deliver_10 rfl rfl ?_
  refine v_get C (v := .int (G.I 4)) in_Md h.o cl_Md 20 (by decide) w_391 rfl rfl d_Md_deliver_11 ?_
  refine v_if_ne C 20 d_Md_deliver_14 (by decide) (fun c_14 => ?_) (fun c_14 => ?_)
  · refine v_aload_n C (i := 0) d_Md_deliver_20 rfl rfl ?_
    refine v_get C (v := .ref (ad 16)) in_Md h.o cl_Md 19 (by decide) w_390 rfl rfl d_Md_deliver_21 ?_
    refine v_iload_n C (i := 2) d_Md_deliver_24 rfl rfl ?_
    refine v_iald C (N := 2) (f := G.T 16) 0 h.hd rfl (pk_in 1 2 (by decide) (by decide)) d_Md_deliver_25 ?_
    refine V.eqst (st' := [.int (G.T 16 1)]) (by rw [show Int32.toNatClampNeg 1 = 1 from pk_cl _ (hx := by decide)]) ?_
    refine V.eqst (st' := [.int (nI sd)]) (by rw [hs1]) ?_
    refine v_if_ne C 32 d_Md_deliver_26 (by decide) (fun c_26 => ?_) (fun c_26 => ?_)
    · obtain ⟨m, rfl⟩ : ∃ m, sd = m + 1 := ⟨sd - 1, by have : sd ≠ 0 := fun z => c_26 (by rw [z]; exact nI_0); omega⟩
      refine v_iload_n C (i := 2) d_Md_deliver_32 rfl rfl ?_
      refine v_bipush C (v := 64) d_Md_deliver_33 (by decide) ?_
      refine v_imul C d_Md_deliver_35 ?_
      refine V.eqst (st' := [.int (nI 64)]) (by rw [show (1 : Int32) * 64 = nI 64 from by decide]) ?_
      refine v_istore_n C (i := 3) (lv' := [(3, .int (nI 64)), (2, .int 1), (0, .ref (ad 0)), (1, .int u)]) d_Md_deliver_36 rfl (by decide) rfl ?_
      refine v_aload_n C (i := 0) d_Md_deliver_37 rfl rfl ?_
      refine v_get C (v := .ref (ad 10)) in_Md h.o cl_Md 13 (by decide) w_384 rfl rfl d_Md_deliver_38 ?_
      refine v_iload_n C (i := 3) d_Md_deliver_41 rfl rfl ?_
      refine v_iald C (N := 128) (f := G.T 10) 0 (h.a 10 (by decide) (by decide)) rfl (pk_in 64 128 (by decide)) d_Md_deliver_42 ?_
      refine V.eqst (st' := [.int (G.T 10 64)]) (by rw [show Int32.toNatClampNeg (nI 64) = 64 from pk_cl _ (hx := rfl)]) ?_
      refine v_istore C (i := 4) (lv' := [(4, .int (G.T 10 64)), (3, .int (nI 64)), (2, .int 1), (0, .ref (ad 0)), (1, .int u)]) d_Md_deliver_43 (by decide) rfl ?_
      refine v_aload_n C (i := 0) d_Md_deliver_45 rfl rfl ?_
      refine v_get C (v := .ref (ad 11)) in_Md h.o cl_Md 14 (by decide) w_385 rfl rfl d_Md_deliver_46 ?_
      refine v_iload_n C (i := 3) d_Md_deliver_49 rfl rfl ?_
      refine v_iald C (N := 128) (f := G.T 11) 0 (h.a 11 (by decide) (by decide)) rfl (pk_in 64 128 (by decide)) d_Md_deliver_50 ?_
      refine V.eqst (st' := [.int (G.T 11 64)]) (by rw [show Int32.toNatClampNeg (nI 64) = 64 from pk_cl _ (hx := rfl)]) ?_
      refine v_istore C (i := 5) (lv' := [(5, .int (G.T 11 64)), (4, .int (G.T 10 64)), (3, .int (nI 64)), (2, .int 1), (0, .ref (ad 0)), (1, .int u)]) d_Md_deliver_51 (by decide) rfl ?_
      refine v_aload_n C (i := 0) d_Md_deliver_53 rfl rfl ?_
      refine v_get C (v := .ref (ad 12)) in_Md h.o cl_Md 15 (by decide) w_386 rfl rfl d_Md_deliver_54 ?_
      refine v_iload_n C (i := 3) d_Md_deliver_57 rfl rfl ?_
      refine v_iald C (N := 128) (f := G.T 12) 0 (h.a 12 (by decide) (by decide)) rfl (pk_in 64 128 (by decide)) d_Md_deliver_58 ?_
      refine V.eqst (st' := [.int (G.T 12 64)]) (by rw [show Int32.toNatClampNeg (nI 64) = 64 from pk_cl _ (hx := rfl)]) ?_
      refine v_istore C (i := 6) (lv' := [(6, .int (G.T 12 64)), (5, .int (G.T 11 64)), (4, .int (G.T 10 64)), (3, .int (nI 64)), (2, .int 1), (0, .ref (ad 0)), (1, .int u)]) d_Md_deliver_59 (by decide) rfl ?_
      refine v_aload_n C (i := 0) d_Md_deliver_61 rfl rfl ?_
      refine v_get C (v := .ref (ad 13)) in_Md h.o cl_Md 16 (by decide) w_387 rfl rfl d_Md_deliver_62 ?_
      refine v_iload_n C (i := 3) d_Md_deliver_65 rfl rfl ?_
      refine v_iald C (N := 128) (f := G.T 13) 0 (h.a 13 (by decide) (by decide)) rfl (pk_in 64 128 (by decide)) d_Md_deliver_66 ?_
      refine V.eqst (st' := [.int (G.T 13 64)]) (by rw [show Int32.toNatClampNeg (nI 64) = 64 from pk_cl _ (hx := rfl)]) ?_
      refine v_istore C (i := 7) (lv' := [(7, .int (G.T 13 64)), (6, .int (G.T 12 64)), (5, .int (G.T 11 64)), (4, .int (G.T 10 64)), (3, .int (nI 64)), (2, .int 1), (0, .ref (ad 0)), (1, .int u)]) d_Md_deliver_67 (by decide) rfl ?_
      refine v_aload_n C (i := 0) d_Md_deliver_69 rfl rfl ?_
      refine v_get C (v := .ref (ad 14)) in_Md h.o cl_Md 17 (by decide) w_388 rfl rfl d_Md_deliver_70 ?_
      refine v_iload_n C (i := 3) d_Md_deliver_73 rfl rfl ?_
      refine v_iald C (N := 128) (f := G.T 14) 0 (h.a 14 (by decide) (by decide)) rfl (pk_in 64 128 (by decide)) d_Md_deliver_74 ?_
      refine V.eqst (st' := [.int (G.T 14 64)]) (by rw [show Int32.toNatClampNeg (nI 64) = 64 from pk_cl _ (hx := rfl)]) ?_
      refine v_istore C (i := 8) (lv' := [(8, .int (G.T 14 64)), (7, .int (G.T 13 64)), (6, .int (G.T 12 64)), (5, .int (G.T 11 64)), (4, .int (G.T 10 64)), (3, .int (nI 64)), (2, .int 1), (0, .ref (ad 0)), (1, .int u)]) d_Md_deliver_75 (by decide) rfl ?_
      refine v_aload_n C (i := 0) d_Md_deliver_77 rfl rfl ?_
      refine v_get C (v := .ref (ad 15)) in_Md h.o cl_Md 18 (by decide) w_389 rfl rfl d_Md_deliver_78 ?_
      refine v_iload_n C (i := 3) d_Md_deliver_81 rfl rfl ?_
      refine v_zald C (N := 128) (f := G.T 15) 1 h.z rfl (pk_in 64 128 (by decide)) d_Md_deliver_82 ?_
      refine V.eqst (st' := [.int (G.T 15 64)]) (by rw [show Int32.toNatClampNeg (nI 64) = 64 from pk_cl _ (hx := rfl)]) ?_
      refine v_if_eq C 93 d_Md_deliver_83 (by decide) (fun c_83 => ?_) (fun c_83 => ?_)
      · refine v_aload_n C (i := 0) d_Md_deliver_93 rfl rfl ?_
        refine v_get C (v := .ref (ad 16)) in_Md h.o cl_Md 19 (by decide) w_390 rfl rfl d_Md_deliver_94 ?_
        refine v_iload_n C (i := 2) d_Md_deliver_97 rfl rfl ?_
        refine v_dup2_11 C d_Md_deliver_98 rfl rfl ?_
        refine v_iald C (N := 2) (f := G.T 16) 0 h.hd rfl (pk_in 1 2 (by decide) (by decide)) d_Md_deliver_99 ?_
        refine V.eqst (st' := [.int (G.T 16 1), .int 1, .ref (ad 16)]) (by rw [show Int32.toNatClampNeg 1 = 1 from pk_cl _ (hx := by decide)]) ?_
        refine V.eqst (st' := [.int (nI (m + 1)), .int 1, .ref (ad 16)]) (by rw [hs1]) ?_
        refine v_iconst C (v := 1) d_Md_deliver_100 (by decide) ?_
        refine v_isub C d_Md_deliver_101 ?_
        refine V.eqst (st' := [.int (nI m), .int 1, .ref (ad 16)]) (by rw [nI_pred]) ?_
        refine v_iast C (N := 2) (f := G.T 16) 0 h.hd rfl (pk_in 1 2 (by decide) (by decide)) d_Md_deliver_102 ?_
        rw [show Int32.toNatClampNeg 1 = 1 from pk_cl _ (hx := by decide)]
        have h : R2 cI cZ (mset M (ad 16) (aI cI 2 (upd (G.T 16) 1 (nI m)))) ad (G.sT 16 (upd (G.T 16) 1 (nI m))) := h.pa 16 (by decide) (by decide) (upd (G.T 16) 1 (nI m))
        revert h
        generalize mset M (ad 16) (aI cI 2 (upd (G.T 16) 1 (nI m))) = M
        intro h
        refine v_iload_n C (i := 3) d_Md_deliver_103 rfl rfl ?_
        refine v_istore C (i := 9) (lv' := [(9, .int (nI 64)), (8, .int (G.T 14 64)), (7, .int (G.T 13 64)), (6, .int (G.T 12 64)), (5, .int (G.T 11 64)), (4, .int (G.T 10 64)), (3, .int (nI 64)), (2, .int 1), (0, .ref (ad 0)), (1, .int u)]) d_Md_deliver_104 (by decide) rfl ?_
        obtain ⟨Gd, hGd⟩ : ∃ Gd, Gd = (G.sT 16 (upd (G.T 16) 1 (nI m))) := ⟨_, rfl⟩
        rw [← hGd] at h
        have e16 : Gd.T 16 1 = nI m := by rw [hGd, sT2_at, pk_us]
        have hzd : ∀ j, Gd.T 15 j = 0 ∨ Gd.T 15 j = 1 := by intro j; rw [hGd, sT2_ne _ _ _ _ (by decide)]; exact hz j
        have L : ∀ (fu i : Nat) (M : Mem), m - i < fu → i ≤ m → R2 cI cZ M ad (Gd.shf6 64 i) → V cls 10 (rmOf 5 115 0 0) Z 106 [(9, .int (nI (64 + i))), (8, .int (G.T 14 64)), (7, .int (G.T 13 64)), (6, .int (G.T 12 64)), (5, .int (G.T 11 64)), (4, .int (G.T 10 64)), (3, .int (nI 64)), (2, .int 1), (0, .ref (ad 0)), (1, .int u)] [] M 0 0 := by
          intro fu
          induction fu with
          | zero => intro i M hf; omega
          | succ fu ih =>
            intro i M hf hi h
            refine v_iload C (i := 9) d_Md_deliver_106 rfl ?_
            refine v_iload_n C (i := 3) d_Md_deliver_108 rfl rfl ?_
            refine v_aload_n C (i := 0) d_Md_deliver_109 rfl rfl ?_
            refine v_get C (v := .ref (ad 16)) in_Md h.o cl_Md 19 (by decide) w_390 rfl rfl d_Md_deliver_110 ?_
            refine v_iload_n C (i := 2) d_Md_deliver_113 rfl rfl ?_
            refine v_iald C (N := 2) (f := Gd.T 16) 0 h.hd rfl (pk_in 1 2 (by decide) (by decide)) d_Md_deliver_114 ?_
            refine V.eqst (st' := [.int (Gd.T 16 1), .int (nI 64), .int (nI (64 + i))]) (by rw [show Int32.toNatClampNeg 1 = 1 from pk_cl _ (hx := by decide)]) ?_
            refine V.eqst (st' := [.int (nI m), .int (nI 64), .int (nI (64 + i))]) (by rw [e16]) ?_
            refine v_iadd C d_Md_deliver_115 ?_
            refine V.eqst (st' := [.int (nI (64 + m)), .int (nI (64 + i))]) (by rw [nI_add]) ?_
            refine v_icmp_ge C 221 d_Md_deliver_116 (by decide) (fun c_116 => ?_) (fun c_116 => ?_)
            · have hi2 : i = m := Nat.le_antisymm hi (by have := (nI_leI (by omega) (by omega)).mp c_116; omega)
              subst hi2
              obtain ⟨q, eq, hq, hpc⟩ := hq (by omega)
              refine V.pick (lv' := [(9, .int (nI (64 + i))), (8, .int (G.T 14 64)), (7, .int (G.T 13 64)), (6, .int (G.T 12 64)), (5, .int (G.T 11 64)), (4, .int (nI q)), (3, .int (nI 64)), (2, .int 1), (0, .ref (ad 0)), (1, .int u)]) [0, 1, 2, 3, 4, 5, 6, 7, 8, 9] (by rw [← eq]; rfl) ?_
              have h : R2 cI cZ M ad (G.dlv 1 i) := by rw [hGd] at h; exact h
              refine v_iload_n C (i := 1) d_Md_deliver_221 rfl rfl ?_
              refine v_if_eq C 238 d_Md_deliver_222 (by decide) (fun c_222 => ?_) (fun c_222 => absurd (hu) c_222)
              refine v_aload_n C (i := 0) d_Md_deliver_238 rfl rfl ?_
              refine v_iload C (i := 4) d_Md_deliver_239 rfl ?_
              refine v_iload C (i := 5) d_Md_deliver_241 rfl ?_
              refine v_iload C (i := 6) d_Md_deliver_243 rfl ?_
              refine v_iload C (i := 7) d_Md_deliver_245 rfl ?_
              refine v_iload C (i := 8) d_Md_deliver_247 rfl ?_
              refine v_callV C (As := [.int (nI q), .int (G.T 11 64), .int (G.T 12 64), .int (G.T 13 64), .int (G.T 14 64)]) (rest := []) h.o cl_Md rfl w_523 wp_28 (ct_Md_take h q hq su (by omega) (by rw [dlv_16, pk_un (by decide)]; exact hs0) (G.T 11 64) (G.T 12 64) (G.T 13 64) (G.T 14 64) hpc) (Nat.le_of_ble_eq_true rfl) (Nat.le_of_ble_eq_true rfl) w_524 w_6 hy_Md_take w_521 rfl (Nat.le_of_ble_eq_true rfl) ⟨by decide, by decide⟩ d_Md_deliver_249 (fun rv M hp => ?_)
              obtain ⟨rfl, k, ek, hw⟩ := hp
              refine V.eqst (st' := []) rfl (V.cs (k' := 0) (n' := 0) rfl rfl ?_)
              refine v_iload C (i := 5) d_Md_deliver_252 rfl ?_
              exact v_iret hQ C rfl d_Md_deliver_254 (by omega) (by omega) (Or.inr (Or.inr ⟨c_14, i, rfl, Or.inr ⟨c_83, rfl, q, k, ⟨eq, hq⟩, ek, hw⟩⟩))
            · have hi2 : i < m := Nat.lt_of_not_le (fun z => c_116 ((nI_leI (by omega) (by omega)).mpr (by omega)))
              refine v_aload_n C (i := 0) d_Md_deliver_119 rfl rfl ?_
              refine v_get C (v := .ref (ad 10)) in_Md h.o cl_Md 13 (by decide) w_384 rfl rfl d_Md_deliver_120 ?_
              refine v_iload C (i := 9) d_Md_deliver_123 rfl ?_
              refine v_aload_n C (i := 0) d_Md_deliver_125 rfl rfl ?_
              refine v_get C (v := .ref (ad 10)) in_Md h.o cl_Md 13 (by decide) w_384 rfl rfl d_Md_deliver_126 ?_
              refine v_iload C (i := 9) d_Md_deliver_129 rfl ?_
              refine v_iconst C (v := 1) d_Md_deliver_131 (by decide) ?_
              refine v_iadd C d_Md_deliver_132 ?_
              refine V.eqst (st' := [.int (nI (64 + i + 1)), .ref (ad 10), .int (nI (64 + i)), .ref (ad 10)]) (by rw [nI_1]) ?_
              refine v_iald C (N := 128) (f := shb (Gd.T 10) 64 i) 0 (h.a 10 (by decide) (by decide)) rfl (pk_in (64 + i + 1) 128 (by omega)) d_Md_deliver_133 ?_
              refine V.eqst (st' := [.int ((shb (Gd.T 10) 64 i) (64 + i + 1)), .int (nI (64 + i)), .ref (ad 10)]) (by rw [show Int32.toNatClampNeg (nI (64 + i + 1)) = 64 + i + 1 from pk_cl _ (hx := rfl)]) ?_
              refine V.eqst (st' := [.int (Gd.T 10 (64 + i + 1)), .int (nI (64 + i)), .ref (ad 10)]) (by rw [shb_at]) ?_
              refine v_iast C (N := 128) (f := shb (Gd.T 10) 64 i) 0 (h.a 10 (by decide) (by decide)) rfl (pk_in (64 + i) 128 (by omega)) d_Md_deliver_134 ?_
              rw [show Int32.toNatClampNeg (nI (64 + i)) = 64 + i from pk_cl _ (hx := rfl)]
              have h : R2 cI cZ (mset M (ad 10) (aI cI 128 (upd (shb (Gd.T 10) 64 i) (64 + i) (Gd.T 10 (64 + i + 1))))) ad ((Gd.shf6 64 i).sT 10 (upd (shb (Gd.T 10) 64 i) (64 + i) (Gd.T 10 (64 + i + 1)))) := h.pa 10 (by decide) (by decide) (upd (shb (Gd.T 10) 64 i) (64 + i) (Gd.T 10 (64 + i + 1)))
              revert h
              generalize mset M (ad 10) (aI cI 128 (upd (shb (Gd.T 10) 64 i) (64 + i) (Gd.T 10 (64 + i + 1)))) = M
              intro h
              refine v_aload_n C (i := 0) d_Md_deliver_135 rfl rfl ?_
              refine v_get C (v := .ref (ad 11)) in_Md h.o cl_Md 14 (by decide) w_385 rfl rfl d_Md_deliver_136 ?_
              refine v_iload C (i := 9) d_Md_deliver_139 rfl ?_
              refine v_aload_n C (i := 0) d_Md_deliver_141 rfl rfl ?_
              refine v_get C (v := .ref (ad 11)) in_Md h.o cl_Md 14 (by decide) w_385 rfl rfl d_Md_deliver_142 ?_
              refine v_iload C (i := 9) d_Md_deliver_145 rfl ?_
              refine v_iconst C (v := 1) d_Md_deliver_147 (by decide) ?_
              refine v_iadd C d_Md_deliver_148 ?_
              refine V.eqst (st' := [.int (nI (64 + i + 1)), .ref (ad 11), .int (nI (64 + i)), .ref (ad 11)]) (by rw [nI_1]) ?_
              refine v_iald C (N := 128) (f := shb (Gd.T 11) 64 i) 0 (h.a 11 (by decide) (by decide)) rfl (pk_in (64 + i + 1) 128 (by omega)) d_Md_deliver_149 ?_
              refine V.eqst (st' := [.int ((shb (Gd.T 11) 64 i) (64 + i + 1)), .int (nI (64 + i)), .ref (ad 11)]) (by rw [show Int32.toNatClampNeg (nI (64 + i + 1)) = 64 + i + 1 from pk_cl _ (hx := rfl)]) ?_
              refine V.eqst (st' := [.int (Gd.T 11 (64 + i + 1)), .int (nI (64 + i)), .ref (ad 11)]) (by rw [shb_at]) ?_
              refine v_iast C (N := 128) (f := shb (Gd.T 11) 64 i) 0 (h.a 11 (by decide) (by decide)) rfl (pk_in (64 + i) 128 (by omega)) d_Md_deliver_150 ?_
              rw [show Int32.toNatClampNeg (nI (64 + i)) = 64 + i from pk_cl _ (hx := rfl)]
              have h : R2 cI cZ (mset M (ad 11) (aI cI 128 (upd (shb (Gd.T 11) 64 i) (64 + i) (Gd.T 11 (64 + i + 1))))) ad (((Gd.shf6 64 i).sT 10 (upd (shb (Gd.T 10) 64 i) (64 + i) (Gd.T 10 (64 + i + 1)))).sT 11 (upd (shb (Gd.T 11) 64 i) (64 + i) (Gd.T 11 (64 + i + 1)))) := h.pa 11 (by decide) (by decide) (upd (shb (Gd.T 11) 64 i) (64 + i) (Gd.T 11 (64 + i + 1)))
              revert h
              generalize mset M (ad 11) (aI cI 128 (upd (shb (Gd.T 11) 64 i) (64 + i) (Gd.T 11 (64 + i + 1)))) = M
              intro h
              refine v_aload_n C (i := 0) d_Md_deliver_151 rfl rfl ?_
              refine v_get C (v := .ref (ad 12)) in_Md h.o cl_Md 15 (by decide) w_386 rfl rfl d_Md_deliver_152 ?_
              refine v_iload C (i := 9) d_Md_deliver_155 rfl ?_
              refine v_aload_n C (i := 0) d_Md_deliver_157 rfl rfl ?_
              refine v_get C (v := .ref (ad 12)) in_Md h.o cl_Md 15 (by decide) w_386 rfl rfl d_Md_deliver_158 ?_
              refine v_iload C (i := 9) d_Md_deliver_161 rfl ?_
              refine v_iconst C (v := 1) d_Md_deliver_163 (by decide) ?_
              refine v_iadd C d_Md_deliver_164 ?_
              refine V.eqst (st' := [.int (nI (64 + i + 1)), .ref (ad 12), .int (nI (64 + i)), .ref (ad 12)]) (by rw [nI_1]) ?_
              refine v_iald C (N := 128) (f := shb (Gd.T 12) 64 i) 0 (h.a 12 (by decide) (by decide)) rfl (pk_in (64 + i + 1) 128 (by omega)) d_Md_deliver_165 ?_
              refine V.eqst (st' := [.int ((shb (Gd.T 12) 64 i) (64 + i + 1)), .int (nI (64 + i)), .ref (ad 12)]) (by rw [show Int32.toNatClampNeg (nI (64 + i + 1)) = 64 + i + 1 from pk_cl _ (hx := rfl)]) ?_
              refine V.eqst (st' := [.int (Gd.T 12 (64 + i + 1)), .int (nI (64 + i)), .ref (ad 12)]) (by rw [shb_at]) ?_
              refine v_iast C (N := 128) (f := shb (Gd.T 12) 64 i) 0 (h.a 12 (by decide) (by decide)) rfl (pk_in (64 + i) 128 (by omega)) d_Md_deliver_166 ?_
              rw [show Int32.toNatClampNeg (nI (64 + i)) = 64 + i from pk_cl _ (hx := rfl)]
              have h : R2 cI cZ (mset M (ad 12) (aI cI 128 (upd (shb (Gd.T 12) 64 i) (64 + i) (Gd.T 12 (64 + i + 1))))) ad ((((Gd.shf6 64 i).sT 10 (upd (shb (Gd.T 10) 64 i) (64 + i) (Gd.T 10 (64 + i + 1)))).sT 11 (upd (shb (Gd.T 11) 64 i) (64 + i) (Gd.T 11 (64 + i + 1)))).sT 12 (upd (shb (Gd.T 12) 64 i) (64 + i) (Gd.T 12 (64 + i + 1)))) := h.pa 12 (by decide) (by decide) (upd (shb (Gd.T 12) 64 i) (64 + i) (Gd.T 12 (64 + i + 1)))
              revert h
              generalize mset M (ad 12) (aI cI 128 (upd (shb (Gd.T 12) 64 i) (64 + i) (Gd.T 12 (64 + i + 1)))) = M
              intro h
              refine v_aload_n C (i := 0) d_Md_deliver_167 rfl rfl ?_
              refine v_get C (v := .ref (ad 13)) in_Md h.o cl_Md 16 (by decide) w_387 rfl rfl d_Md_deliver_168 ?_
              refine v_iload C (i := 9) d_Md_deliver_171 rfl ?_
              refine v_aload_n C (i := 0) d_Md_deliver_173 rfl rfl ?_
              refine v_get C (v := .ref (ad 13)) in_Md h.o cl_Md 16 (by decide) w_387 rfl rfl d_Md_deliver_174 ?_
              refine v_iload C (i := 9) d_Md_deliver_177 rfl ?_
              refine v_iconst C (v := 1) d_Md_deliver_179 (by decide) ?_
              refine v_iadd C d_Md_deliver_180 ?_
              refine V.eqst (st' := [.int (nI (64 + i + 1)), .ref (ad 13), .int (nI (64 + i)), .ref (ad 13)]) (by rw [nI_1]) ?_
              refine v_iald C (N := 128) (f := shb (Gd.T 13) 64 i) 0 (h.a 13 (by decide) (by decide)) rfl (pk_in (64 + i + 1) 128 (by omega)) d_Md_deliver_181 ?_
              refine V.eqst (st' := [.int ((shb (Gd.T 13) 64 i) (64 + i + 1)), .int (nI (64 + i)), .ref (ad 13)]) (by rw [show Int32.toNatClampNeg (nI (64 + i + 1)) = 64 + i + 1 from pk_cl _ (hx := rfl)]) ?_
              refine V.eqst (st' := [.int (Gd.T 13 (64 + i + 1)), .int (nI (64 + i)), .ref (ad 13)]) (by rw [shb_at]) ?_
              refine v_iast C (N := 128) (f := shb (Gd.T 13) 64 i) 0 (h.a 13 (by decide) (by decide)) rfl (pk_in (64 + i) 128 (by omega)) d_Md_deliver_182 ?_
              rw [show Int32.toNatClampNeg (nI (64 + i)) = 64 + i from pk_cl _ (hx := rfl)]
              have h : R2 cI cZ (mset M (ad 13) (aI cI 128 (upd (shb (Gd.T 13) 64 i) (64 + i) (Gd.T 13 (64 + i + 1))))) ad (((((Gd.shf6 64 i).sT 10 (upd (shb (Gd.T 10) 64 i) (64 + i) (Gd.T 10 (64 + i + 1)))).sT 11 (upd (shb (Gd.T 11) 64 i) (64 + i) (Gd.T 11 (64 + i + 1)))).sT 12 (upd (shb (Gd.T 12) 64 i) (64 + i) (Gd.T 12 (64 + i + 1)))).sT 13 (upd (shb (Gd.T 13) 64 i) (64 + i) (Gd.T 13 (64 + i + 1)))) := h.pa 13 (by decide) (by decide) (upd (shb (Gd.T 13) 64 i) (64 + i) (Gd.T 13 (64 + i + 1)))
              revert h
              generalize mset M (ad 13) (aI cI 128 (upd (shb (Gd.T 13) 64 i) (64 + i) (Gd.T 13 (64 + i + 1)))) = M
              intro h
              refine v_aload_n C (i := 0) d_Md_deliver_183 rfl rfl ?_
              refine v_get C (v := .ref (ad 14)) in_Md h.o cl_Md 17 (by decide) w_388 rfl rfl d_Md_deliver_184 ?_
              refine v_iload C (i := 9) d_Md_deliver_187 rfl ?_
              refine v_aload_n C (i := 0) d_Md_deliver_189 rfl rfl ?_
              refine v_get C (v := .ref (ad 14)) in_Md h.o cl_Md 17 (by decide) w_388 rfl rfl d_Md_deliver_190 ?_
              refine v_iload C (i := 9) d_Md_deliver_193 rfl ?_
              refine v_iconst C (v := 1) d_Md_deliver_195 (by decide) ?_
              refine v_iadd C d_Md_deliver_196 ?_
              refine V.eqst (st' := [.int (nI (64 + i + 1)), .ref (ad 14), .int (nI (64 + i)), .ref (ad 14)]) (by rw [nI_1]) ?_
              refine v_iald C (N := 128) (f := shb (Gd.T 14) 64 i) 0 (h.a 14 (by decide) (by decide)) rfl (pk_in (64 + i + 1) 128 (by omega)) d_Md_deliver_197 ?_
              refine V.eqst (st' := [.int ((shb (Gd.T 14) 64 i) (64 + i + 1)), .int (nI (64 + i)), .ref (ad 14)]) (by rw [show Int32.toNatClampNeg (nI (64 + i + 1)) = 64 + i + 1 from pk_cl _ (hx := rfl)]) ?_
              refine V.eqst (st' := [.int (Gd.T 14 (64 + i + 1)), .int (nI (64 + i)), .ref (ad 14)]) (by rw [shb_at]) ?_
              refine v_iast C (N := 128) (f := shb (Gd.T 14) 64 i) 0 (h.a 14 (by decide) (by decide)) rfl (pk_in (64 + i) 128 (by omega)) d_Md_deliver_198 ?_
              rw [show Int32.toNatClampNeg (nI (64 + i)) = 64 + i from pk_cl _ (hx := rfl)]
              have h : R2 cI cZ (mset M (ad 14) (aI cI 128 (upd (shb (Gd.T 14) 64 i) (64 + i) (Gd.T 14 (64 + i + 1))))) ad ((((((Gd.shf6 64 i).sT 10 (upd (shb (Gd.T 10) 64 i) (64 + i) (Gd.T 10 (64 + i + 1)))).sT 11 (upd (shb (Gd.T 11) 64 i) (64 + i) (Gd.T 11 (64 + i + 1)))).sT 12 (upd (shb (Gd.T 12) 64 i) (64 + i) (Gd.T 12 (64 + i + 1)))).sT 13 (upd (shb (Gd.T 13) 64 i) (64 + i) (Gd.T 13 (64 + i + 1)))).sT 14 (upd (shb (Gd.T 14) 64 i) (64 + i) (Gd.T 14 (64 + i + 1)))) := h.pa 14 (by decide) (by decide) (upd (shb (Gd.T 14) 64 i) (64 + i) (Gd.T 14 (64 + i + 1)))
              revert h
              generalize mset M (ad 14) (aI cI 128 (upd (shb (Gd.T 14) 64 i) (64 + i) (Gd.T 14 (64 + i + 1)))) = M
              intro h
              refine v_aload_n C (i := 0) d_Md_deliver_199 rfl rfl ?_
              refine v_get C (v := .ref (ad 15)) in_Md h.o cl_Md 18 (by decide) w_389 rfl rfl d_Md_deliver_200 ?_
              refine v_iload C (i := 9) d_Md_deliver_203 rfl ?_
              refine v_aload_n C (i := 0) d_Md_deliver_205 rfl rfl ?_
              refine v_get C (v := .ref (ad 15)) in_Md h.o cl_Md 18 (by decide) w_389 rfl rfl d_Md_deliver_206 ?_
              refine v_iload C (i := 9) d_Md_deliver_209 rfl ?_
              refine v_iconst C (v := 1) d_Md_deliver_211 (by decide) ?_
              refine v_iadd C d_Md_deliver_212 ?_
              refine V.eqst (st' := [.int (nI (64 + i + 1)), .ref (ad 15), .int (nI (64 + i)), .ref (ad 15)]) (by rw [nI_1]) ?_
              refine v_zald C (N := 128) (f := shb (Gd.T 15) 64 i) 1 h.z rfl (pk_in (64 + i + 1) 128 (by omega)) d_Md_deliver_213 ?_
              refine V.eqst (st' := [.int ((shb (Gd.T 15) 64 i) (64 + i + 1)), .int (nI (64 + i)), .ref (ad 15)]) (by rw [show Int32.toNatClampNeg (nI (64 + i + 1)) = 64 + i + 1 from pk_cl _ (hx := rfl)]) ?_
              refine V.eqst (st' := [.int (Gd.T 15 (64 + i + 1)), .int (nI (64 + i)), .ref (ad 15)]) (by rw [shb_at]) ?_
              refine v_zast C (N := 128) (f := shb (Gd.T 15) 64 i) 1 h.z rfl (pk_in (64 + i) 128 (by omega)) (y := (Gd.T 15 (64 + i + 1))) (nar01 (hzd _)) d_Md_deliver_214 ?_
              rw [show Int32.toNatClampNeg (nI (64 + i)) = 64 + i from pk_cl _ (hx := rfl)]
              have h : R2 cI cZ (mset M (ad 15) (aI cZ 128 (upd (shb (Gd.T 15) 64 i) (64 + i) (Gd.T 15 (64 + i + 1))))) ad (((((((Gd.shf6 64 i).sT 10 (upd (shb (Gd.T 10) 64 i) (64 + i) (Gd.T 10 (64 + i + 1)))).sT 11 (upd (shb (Gd.T 11) 64 i) (64 + i) (Gd.T 11 (64 + i + 1)))).sT 12 (upd (shb (Gd.T 12) 64 i) (64 + i) (Gd.T 12 (64 + i + 1)))).sT 13 (upd (shb (Gd.T 13) 64 i) (64 + i) (Gd.T 13 (64 + i + 1)))).sT 14 (upd (shb (Gd.T 14) 64 i) (64 + i) (Gd.T 14 (64 + i + 1)))).sT 15 (upd (shb (Gd.T 15) 64 i) (64 + i) (Gd.T 15 (64 + i + 1)))) := h.pa 15 (by decide) (by decide) (upd (shb (Gd.T 15) 64 i) (64 + i) (Gd.T 15 (64 + i + 1)))
              revert h
              generalize mset M (ad 15) (aI cZ 128 (upd (shb (Gd.T 15) 64 i) (64 + i) (Gd.T 15 (64 + i + 1)))) = M
              intro h
              refine v_iinc C (i := 9) (j := 0) (v := nI (64 + (i + 1))) (lv' := [(9, .int (nI (64 + (i + 1)))), (8, .int (G.T 14 64)), (7, .int (G.T 13 64)), (6, .int (G.T 12 64)), (5, .int (G.T 11 64)), (4, .int (G.T 10 64)), (3, .int (nI 64)), (2, .int 1), (0, .ref (ad 0)), (1, .int u)]) d_Md_deliver_215 rfl (nI_1 _) (by decide) rfl ?_
              refine v_goto C 106 d_Md_deliver_218 (by decide) ?_
              rw [shf6_s] at h
              refine V.pick (lv' := [(9, .int (nI (64 + (i + 1)))), (8, .int (G.T 14 64)), (7, .int (G.T 13 64)), (6, .int (G.T 12 64)), (5, .int (G.T 11 64)), (4, .int (G.T 10 64)), (3, .int (nI 64)), (2, .int 1), (0, .ref (ad 0)), (1, .int u)]) [0, 1, 2, 3, 4, 5, 6, 7, 8, 9] rfl ?_
              exact ih (i + 1) M (by omega) (by omega) h
        refine V.pick (lv' := [(9, .int (nI 64)), (8, .int (G.T 14 64)), (7, .int (G.T 13 64)), (6, .int (G.T 12 64)), (5, .int (G.T 11 64)), (4, .int (G.T 10 64)), (3, .int (nI 64)), (2, .int 1), (0, .ref (ad 0)), (1, .int u)]) [0, 1, 2, 3, 4, 5, 6, 7, 8, 9] rfl ?_
        refine V.pick (lv' := [(9, .int (nI (64 + 0))), (8, .int (G.T 14 64)), (7, .int (G.T 13 64)), (6, .int (G.T 12 64)), (5, .int (G.T 11 64)), (4, .int (G.T 10 64)), (3, .int (nI 64)), (2, .int 1), (0, .ref (ad 0)), (1, .int u)]) [0, 1, 2, 3, 4, 5, 6, 7, 8, 9] rfl ?_
        refine L (m + 1) 0 M (by omega) (by omega) ?_
        rw [shf6_0]
        exact h
      · refine v_aload_n C (i := 0) d_Md_deliver_86 rfl rfl ?_
        refine v_callV C (As := []) (rest := []) h.o cl_Md rfl w_494 wp_21 (ct_Md_end h n hn hn120) (Nat.le_of_ble_eq_true rfl) (Nat.le_of_ble_eq_true rfl) w_495 w_6 hy_Md_end w_492 rfl (Nat.le_of_ble_eq_true rfl) ⟨by decide, by decide⟩ d_Md_deliver_87 (fun rv M hp => ?_)
        obtain ⟨rfl, hw⟩ := hp
        refine V.eqst (st' := []) rfl (V.cs (k' := 0) (n' := 0) rfl rfl ?_)
        refine v_bipush C (v := (-5)) d_Md_deliver_90 (by decide) ?_
        exact v_iret hQ C rfl d_Md_deliver_92 (by omega) (by omega) (Or.inr (Or.inr ⟨c_14, m, rfl, Or.inl ⟨c_83, rfl, hw⟩⟩))
    · have hz0 : sd = 0 := Classical.byContradiction fun z => nI_ne0 (Nat.pos_of_ne_zero z) (by omega) c_26
      refine v_bipush C (v := (-3)) d_Md_deliver_29 (by decide) ?_
      exact v_iret hQ C rfl d_Md_deliver_31 (by omega) (by omega) (Or.inr (Or.inl ⟨c_14, hz0, rfl, h⟩))
  · refine v_bipush C (v := (-4)) d_Md_deliver_17 (by decide) ?_
    exact v_iret hQ C rfl d_Md_deliver_19 (by omega) (by omega) (Or.inl ⟨c_14, rfl, h⟩)
