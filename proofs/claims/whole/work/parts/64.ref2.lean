set_option maxHeartbeats 4000000 in
set_option maxRecDepth 100000 in
theorem ct_Md_work {D : va_G} {l : Launch} {cI cZ cR cM : ClassId} {M : Mem} {ad : Nat → Nat} {G : G2} (h : R2 cI cZ M ad G) (q : Nat) (hq : q < 120) (f c : Nat) (hf : G.T 5 q = nI f) (hc : G.T 6 q = nI c) (hfc : f + c ≤ 16) (hc3 : c ≤ 3) (sz : Nat) (hsz : sz < 60) (hs : G.T 16 1 = nI sz) (kd nm : Int32) : Ct TT D cls (tyL cI cZ cR cM) l y_Md_work b_Md_work 6 none 4 90 0 0 [.ref (ad 0), .int (nI q), .int kd, .int nm] M (fun rv M' => rv = none ∧ ∃ G', G.wkR q sz f c (if kd = 0 then 1 else nm + 1) G' ∧ R2 cI cZ M' ad G') := by
  refine ct_of "BlockTargetSessionModel" rfl (by decide) (Nat.le_of_ble_eq_true rfl) ?_
  intro Z hl hD hnm hQ C
  subst hl
  subst hD
  show V cls 6 (rmOf 4 90 0 0) Z 0 [(0, .ref (ad 0)), (1, .int (nI q)), (2, .int kd), (3, .int nm)] [] M 0 0
  refine v_aload_n C (i := 0) d_Md_work_0 rfl rfl ?_
  refine v_get C (v := .ref (ad 4)) in_Md h.o cl_Md 6 (by decide) w_377 rfl rfl d_Md_work_1 ?_
  refine v_iload_n C (i := 1) d_Md_work_4 rfl rfl ?_
  refine v_iald C (N := 120) (f := G.T 4) 0 (h.a 4 (by decide) (by decide)) rfl (pk_in q 120 hq) d_Md_work_5 ?_
  refine V.eqst (st' := [.int (G.T 4 q)]) (by rw [show Int32.toNatClampNeg (nI q) = q from pk_cl _ (hx := rfl)]) ?_
  refine v_if_ne C 52 d_Md_work_6 (by decide) (fun c_6 => ?_) (fun c_6 => ?_)
  · refine v_aload_n C (i := 0) d_Md_work_52 rfl rfl ?_
    refine v_get C (v := .ref (ad 4)) in_Md h.o cl_Md 6 (by decide) w_377 rfl rfl d_Md_work_53 ?_
    refine v_iload_n C (i := 1) d_Md_work_56 rfl rfl ?_
    refine v_iald C (N := 120) (f := G.T 4) 0 (h.a 4 (by decide) (by decide)) rfl (pk_in q 120 hq) d_Md_work_57 ?_
    refine V.eqst (st' := [.int (G.T 4 q)]) (by rw [show Int32.toNatClampNeg (nI q) = q from pk_cl _ (hx := rfl)]) ?_
    refine v_iconst C (v := 1) d_Md_work_58 (by decide) ?_
    refine v_icmp_ne C 107 d_Md_work_59 (by decide) (fun c_59 => ?_) (fun c_59 => ?_)
    · refine v_iconst C (v := 0) d_Md_work_107 (by decide) ?_
      refine v_istore C (i := 4) (lv' := [(4, .int 0), (0, .ref (ad 0)), (1, .int (nI q)), (2, .int kd), (3, .int nm)]) d_Md_work_108 (by decide) rfl ?_
      refine v_iconst C (v := 0) d_Md_work_110 (by decide) ?_
      refine v_istore C (i := 5) (lv' := [(5, .int 0), (4, .int 0), (0, .ref (ad 0)), (1, .int (nI q)), (2, .int kd), (3, .int nm)]) d_Md_work_111 (by decide) rfl ?_
      have L : ∀ (fu i : Nat) (M : Mem) (H : G2) (x : Int32), 16 - i < fu → i ≤ 16 → G.flN i H → R2 cI cZ M ad H → V cls 6 (rmOf 4 90 0 0) Z 113 [(5, .int (nI i)), (4, .int x), (0, .ref (ad 0)), (1, .int (nI q)), (2, .int kd), (3, .int nm)] [] M 0 0 := by
        intro fu
        induction fu with
        | zero => intro i M H x hg; omega
        | succ fu ih =>
          intro i M H x hg hi hN h
          have sm := flN_same hN
          refine v_iload C (i := 5) d_Md_work_113 rfl ?_
          refine v_bipush C (v := 16) d_Md_work_115 (by decide) ?_
          refine v_icmp_ge C 132 d_Md_work_117 (by decide) (fun c_117 => ?_) (fun c_117 => ?_)
          · have hi2 : i = 16 := Nat.le_antisymm hi ((nI_leI (a := 16) (by omega) (by omega)).mp c_117)
            subst hi2
            refine v_aload_n C (i := 0) d_Md_work_132 rfl rfl ?_
            refine v_iload_n C (i := 1) d_Md_work_133 rfl rfl ?_
            refine v_callV C (As := [.int (nI q)]) (rest := []) h.o cl_Md rfl w_515 wp_26 (ct_Md_finish h sz (by omega) (by rw [sm.2 16 (by decide) (by decide)]; exact hs) (nI q)) (Nat.le_of_ble_eq_true rfl) (Nat.le_of_ble_eq_true rfl) w_516 w_6 hy_Md_finish w_513 rfl (Nat.le_of_ble_eq_true rfl) ⟨by decide, by decide⟩ d_Md_work_134 (fun rv M hp => ?_)
            obtain ⟨rfl, hw⟩ := hp
            refine V.eqst (st' := []) rfl (V.cs (k' := 0) (n' := 0) rfl rfl ?_)
            exact v_vret hQ C rfl d_Md_work_137 (by omega) (by omega) ⟨rfl, _, Or.inr ⟨c_6, Or.inr ⟨c_59, H, hN, rfl⟩⟩, hw⟩
          · have hi2 : i < 16 := Nat.lt_of_not_le (fun z => c_117 ((nI_leI (a := 16) (by omega) (by omega)).mpr z))
            refine v_aload_n C (i := 0) d_Md_work_120 rfl rfl ?_
            refine v_callV C (As := []) (rest := []) h.o cl_Md rfl w_469 w_470 (ct_Md_flush h) (Nat.le_of_ble_eq_true rfl) (Nat.le_of_ble_eq_true rfl) w_471 w_6 hy_Md_flush w_512 rfl (Nat.le_of_ble_eq_true rfl) ⟨by decide, by decide⟩ d_Md_work_121 (fun rv M hp => ?_)
            obtain ⟨y, rfl, H', hfl, hw⟩ := hp
            refine V.eqst (st' := [.int y]) rfl (V.cs (k' := 0) (n' := 0) rfl rfl ?_)
            refine v_istore C (i := 4) (lv' := [(4, .int y), (5, .int (nI i)), (0, .ref (ad 0)), (1, .int (nI q)), (2, .int kd), (3, .int nm)]) d_Md_work_124 (by decide) rfl ?_
            refine v_iinc C (i := 5) (j := 1) (v := nI (i + 1)) (lv' := [(5, .int (nI (i + 1))), (4, .int y), (0, .ref (ad 0)), (1, .int (nI q)), (2, .int kd), (3, .int nm)]) d_Md_work_126 rfl (nI_1 i) (by decide) rfl ?_
            refine v_goto C 113 d_Md_work_129 (by decide) ?_
            refine V.pick (lv' := [(5, .int (nI (i + 1))), (4, .int y), (0, .ref (ad 0)), (1, .int (nI q)), (2, .int kd), (3, .int nm)]) [0, 1, 2, 3, 4, 5] rfl ?_
            exact ih (i + 1) M H' y (by omega) (by omega) ⟨H, y, hN, hfl⟩ hw
      refine V.pick (lv' := [(5, .int (nI 0)), (4, .int 0), (0, .ref (ad 0)), (1, .int (nI q)), (2, .int kd), (3, .int nm)]) [0, 1, 2, 3, 4, 5] (by rw [nI_0]; rfl) ?_
      exact L 17 0 M G 0 (by omega) (by omega) rfl h
    · refine v_iconst C (v := 0) d_Md_work_62 (by decide) ?_
      refine v_istore C (i := 4) (lv' := [(4, .int 0), (0, .ref (ad 0)), (1, .int (nI q)), (2, .int kd), (3, .int nm)]) d_Md_work_63 (by decide) rfl ?_
      have L : ∀ (fu i : Nat) (M : Mem) (H : G2), c - i < fu → i ≤ c → H = G.rdN (nI q) f sz i → R2 cI cZ M ad H → V cls 6 (rmOf 4 90 0 0) Z 65 [(4, .int (nI i)), (0, .ref (ad 0)), (1, .int (nI q)), (2, .int kd), (3, .int nm)] [] M 0 0 := by
        intro fu
        induction fu with
        | zero => intro i M H hg; omega
        | succ fu ih =>
          intro i M H hg hi hH h
          have e5 : H.T 5 q = nI f := by rw [hH, rdN_low _ _ _ _ 5 (by decide)]; exact hf
          have e6 : H.T 6 q = nI c := by rw [hH, rdN_low _ _ _ _ 6 (by decide)]; exact hc
          have e16 : H.T 16 1 = nI (sz + i) := by rw [hH]; exact rdN_16 _ _ _ _ hs i
          refine v_iload C (i := 4) d_Md_work_65 rfl ?_
          refine v_aload_n C (i := 0) d_Md_work_67 rfl rfl ?_
          refine v_get C (v := .ref (ad 6)) in_Md h.o cl_Md 8 (by decide) w_379 rfl rfl d_Md_work_68 ?_
          refine v_iload_n C (i := 1) d_Md_work_71 rfl rfl ?_
          refine v_iald C (N := 120) (f := H.T 6) 0 (h.a 6 (by decide) (by decide)) rfl (pk_in q 120 hq) d_Md_work_72 ?_
          refine V.eqst (st' := [.int (H.T 6 q), .int (nI i)]) (by rw [show Int32.toNatClampNeg (nI q) = q from pk_cl _ (hx := rfl)]) ?_
          refine V.eqst (st' := [.int (nI c), .int (nI i)]) (by rw [e6]) ?_
          refine v_icmp_ge C 104 d_Md_work_73 (by decide) (fun c_73 => ?_) (fun c_73 => ?_)
          · have hi2 : i = c := Nat.le_antisymm hi ((nI_leI (by omega) (by omega)).mp c_73)
            subst hi2
            refine v_goto C 132 d_Md_work_104 (by decide) ?_
            refine v_aload_n C (i := 0) d_Md_work_132 rfl rfl ?_
            refine v_iload_n C (i := 1) d_Md_work_133 rfl rfl ?_
            refine v_callV C (As := [.int (nI q)]) (rest := []) h.o cl_Md rfl w_515 wp_26 (ct_Md_finish h (sz + i) (by omega) e16 (nI q)) (Nat.le_of_ble_eq_true rfl) (Nat.le_of_ble_eq_true rfl) w_516 w_6 hy_Md_finish w_513 rfl (Nat.le_of_ble_eq_true rfl) ⟨by decide, by decide⟩ d_Md_work_134 (fun rv M hp => ?_)
            obtain ⟨rfl, hw⟩ := hp
            refine V.eqst (st' := []) rfl (V.cs (k' := 0) (n' := 0) rfl rfl ?_)
            exact v_vret hQ C rfl d_Md_work_137 (by omega) (by omega) ⟨rfl, _, Or.inr ⟨c_6, Or.inl ⟨c_59, rfl⟩⟩, by rw [← hH]; exact hw⟩
          · have hi2 : i < c := Nat.lt_of_not_le (fun z => c_73 ((nI_leI (by omega) (by omega)).mpr z))
            refine v_aload_n C (i := 0) d_Md_work_76 rfl rfl ?_
            refine v_iconst C (v := 1) d_Md_work_77 (by decide) ?_
            refine v_iload_n C (i := 1) d_Md_work_78 rfl rfl ?_
            refine v_iconst C (v := 3) d_Md_work_79 (by decide) ?_
            refine v_iload C (i := 4) d_Md_work_80 rfl ?_
            refine v_aload_n C (i := 0) d_Md_work_82 rfl rfl ?_
            refine v_aload_n C (i := 0) d_Md_work_83 rfl rfl ?_
            refine v_get C (v := .ref (ad 5)) in_Md h.o cl_Md 7 (by decide) w_378 rfl rfl d_Md_work_84 ?_
            refine v_iload_n C (i := 1) d_Md_work_87 rfl rfl ?_
            refine v_iald C (N := 120) (f := H.T 5) 0 (h.a 5 (by decide) (by decide)) rfl (pk_in q 120 hq) d_Md_work_88 ?_
            refine V.eqst (st' := [.int (H.T 5 q), .ref (ad 0), .int (nI i), .int 3, .int (nI q), .int 1, .ref (ad 0)]) (by rw [show Int32.toNatClampNeg (nI q) = q from pk_cl _ (hx := rfl)]) ?_
            refine V.eqst (st' := [.int (nI f), .ref (ad 0), .int (nI i), .int 3, .int (nI q), .int 1, .ref (ad 0)]) (by rw [e5]) ?_
            refine v_iload C (i := 4) d_Md_work_89 rfl ?_
            refine v_iadd C d_Md_work_91 ?_
            refine V.eqst (st' := [.int (nI (f + i)), .ref (ad 0), .int (nI i), .int 3, .int (nI q), .int 1, .ref (ad 0)]) (by rw [nI_add]) ?_
            refine v_callV C (As := [.int (nI (f + i))]) (rest := [.int (nI i), .int 3, .int (nI q), .int 1, .ref (ad 0)]) h.o cl_Md rfl w_519 wp_27 (ct_Md_valueOf h (f + i) (by omega)) (Nat.le_of_ble_eq_true rfl) (Nat.le_of_ble_eq_true rfl) w_520 w_6 hy_Md_valueOf w_517 rfl (Nat.le_of_ble_eq_true rfl) ⟨by decide, by decide⟩ d_Md_work_92 (fun rv M hp => ?_)
            obtain ⟨rfl, rfl⟩ := hp
            refine V.eqst (st' := [.int (H.vo (f + i)), .int (nI i), .int 3, .int (nI q), .int 1, .ref (ad 0)]) rfl (V.cs (k' := 0) (n' := 0) rfl rfl ?_)
            refine V.eqst (st' := [.int (G.vo (f + i)), .int (nI i), .int 3, .int (nI q), .int 1, .ref (ad 0)]) (by rw [hH, rdN_vo]) ?_
            refine v_callV C (As := [.int 1, .int (nI q), .int 3, .int (nI i), .int (G.vo (f + i))]) (rest := []) h.o cl_Md rfl w_486 wp_20 (ct_Md_post1 h (sz + i) (by omega) e16 (nI q) 3 (nI i) (G.vo (f + i))) (Nat.le_of_ble_eq_true rfl) (Nat.le_of_ble_eq_true rfl) w_487 w_6 hy_Md_post w_484 rfl (Nat.le_of_ble_eq_true rfl) ⟨by decide, by decide⟩ d_Md_work_95 (fun rv M hp => ?_)
            obtain ⟨rfl, hw⟩ := hp
            refine V.eqst (st' := []) rfl (V.cs (k' := 0) (n' := 0) rfl rfl ?_)
            refine v_iinc C (i := 4) (j := 0) (v := nI (i + 1)) (lv' := [(4, .int (nI (i + 1))), (0, .ref (ad 0)), (1, .int (nI q)), (2, .int kd), (3, .int nm)]) d_Md_work_98 rfl (nI_1 i) (by decide) rfl ?_
            refine v_goto C 65 d_Md_work_101 (by decide) ?_
            exact ih (i + 1) M _ (by omega) (by omega) (by rw [hH, rdN_I]; rfl) hw
      refine V.pick (lv' := [(4, .int (nI 0)), (0, .ref (ad 0)), (1, .int (nI q)), (2, .int kd), (3, .int nm)]) [0, 1, 2, 3, 4] (by rw [nI_0]; rfl) ?_
      exact L (c + 1) 0 M G (by omega) (by omega) rfl h
  · refine v_iload_n C (i := 2) d_Md_work_9 rfl rfl ?_
    refine v_if_ne C 17 d_Md_work_10 (by decide) (fun c_10 => ?_) (fun c_10 => ?_)
    · refine v_iload_n C (i := 3) d_Md_work_17 rfl rfl ?_
      refine v_iconst C (v := 1) d_Md_work_18 (by decide) ?_
      refine v_iadd C d_Md_work_19 ?_
      refine v_istore C (i := 4) (lv' := [(4, .int (nm + 1)), (0, .ref (ad 0)), (1, .int (nI q)), (2, .int kd), (3, .int nm)]) d_Md_work_20 (by decide) rfl ?_
      refine v_iload C (i := 4) d_Md_work_22 rfl ?_
      refine v_aload_n C (i := 0) d_Md_work_24 rfl rfl ?_
      refine v_get C (v := .ref (ad 6)) in_Md h.o cl_Md 8 (by decide) w_379 rfl rfl d_Md_work_25 ?_
      refine v_iload_n C (i := 1) d_Md_work_28 rfl rfl ?_
      refine v_iald C (N := 120) (f := G.T 6) 0 (h.a 6 (by decide) (by decide)) rfl (pk_in q 120 hq) d_Md_work_29 ?_
      refine V.eqst (st' := [.int (G.T 6 q), .int (nm + 1)]) (by rw [show Int32.toNatClampNeg (nI q) = q from pk_cl _ (hx := rfl)]) ?_
      refine V.eqst (st' := [.int (nI c), .int (nm + 1)]) (by rw [hc]) ?_
      refine v_icmp_lt C 41 d_Md_work_30 (by decide) (fun c_30 => ?_) (fun c_30 => ?_)
      · refine v_aload_n C (i := 0) d_Md_work_41 rfl rfl ?_
        refine v_iconst C (v := 1) d_Md_work_42 (by decide) ?_
        refine v_iload_n C (i := 1) d_Md_work_43 rfl rfl ?_
        refine v_iconst C (v := 2) d_Md_work_44 (by decide) ?_
        refine v_iload C (i := 4) d_Md_work_45 rfl ?_
        refine v_iconst C (v := 0) d_Md_work_47 (by decide) ?_
        refine v_callV C (As := [.int 1, .int (nI q), .int 2, .int (nm + 1), .int 0]) (rest := []) h.o cl_Md rfl w_486 wp_20 (ct_Md_post1 h sz (by omega) hs (nI q) 2 (nm + 1) 0) (Nat.le_of_ble_eq_true rfl) (Nat.le_of_ble_eq_true rfl) w_487 w_6 hy_Md_post w_484 rfl (Nat.le_of_ble_eq_true rfl) ⟨by decide, by decide⟩ d_Md_work_48 (fun rv M hp => ?_)
        obtain ⟨rfl, hw⟩ := hp
        refine V.eqst (st' := []) rfl (V.cs (k' := 0) (n' := 0) rfl rfl ?_)
        exact v_vret hQ C rfl d_Md_work_51 (by omega) (by omega) ⟨rfl, _, Or.inl ⟨c_6, Or.inr ⟨by rw [if_neg c_10, hc]; exact c_30, rfl⟩⟩, by rw [if_neg c_10]; exact hw⟩
      · refine v_aload_n C (i := 0) d_Md_work_33 rfl rfl ?_
        refine v_iload_n C (i := 1) d_Md_work_34 rfl rfl ?_
        refine v_callV C (As := [.int (nI q)]) (rest := []) h.o cl_Md rfl w_502 wp_23 (ct_Md_putAll h q hq f c hf hc hfc hc3 sz (by omega) hs) (Nat.le_of_ble_eq_true rfl) (Nat.le_of_ble_eq_true rfl) w_503 w_6 hy_Md_putAll w_500 rfl (Nat.le_of_ble_eq_true rfl) ⟨by decide, by decide⟩ d_Md_work_35 (fun rv M hp => ?_)
        obtain ⟨rfl, H, hN, hw⟩ := hp
        refine V.eqst (st' := []) rfl (V.cs (k' := 0) (n' := 0) rfl rfl ?_)
        refine v_goto C 51 d_Md_work_38 (by decide) ?_
        exact v_vret hQ C rfl d_Md_work_51 (by omega) (by omega) ⟨rfl, _, Or.inl ⟨c_6, Or.inl ⟨by rw [if_neg c_10, hc]; exact c_30, H, hN, rfl⟩⟩, hw⟩
    · refine v_iconst C (v := 1) d_Md_work_13 (by decide) ?_
      refine v_goto C 20 d_Md_work_14 (by decide) ?_
      refine v_istore C (i := 4) (lv' := [(4, .int 1), (0, .ref (ad 0)), (1, .int (nI q)), (2, .int kd), (3, .int nm)]) d_Md_work_20 (by decide) rfl ?_
      refine v_iload C (i := 4) d_Md_work_22 rfl ?_
      refine v_aload_n C (i := 0) d_Md_work_24 rfl rfl ?_
      refine v_get C (v := .ref (ad 6)) in_Md h.o cl_Md 8 (by decide) w_379 rfl rfl d_Md_work_25 ?_
      refine v_iload_n C (i := 1) d_Md_work_28 rfl rfl ?_
      refine v_iald C (N := 120) (f := G.T 6) 0 (h.a 6 (by decide) (by decide)) rfl (pk_in q 120 hq) d_Md_work_29 ?_
      refine V.eqst (st' := [.int (G.T 6 q), .int 1]) (by rw [show Int32.toNatClampNeg (nI q) = q from pk_cl _ (hx := rfl)]) ?_
      refine V.eqst (st' := [.int (nI c), .int 1]) (by rw [hc]) ?_
      refine v_icmp_lt C 41 d_Md_work_30 (by decide) (fun c_30 => ?_) (fun c_30 => ?_)
      · refine v_aload_n C (i := 0) d_Md_work_41 rfl rfl ?_
        refine v_iconst C (v := 1) d_Md_work_42 (by decide) ?_
        refine v_iload_n C (i := 1) d_Md_work_43 rfl rfl ?_
        refine v_iconst C (v := 2) d_Md_work_44 (by decide) ?_
        refine v_iload C (i := 4) d_Md_work_45 rfl ?_
        refine v_iconst C (v := 0) d_Md_work_47 (by decide) ?_
        refine v_callV C (As := [.int 1, .int (nI q), .int 2, .int 1, .int 0]) (rest := []) h.o cl_Md rfl w_486 wp_20 (ct_Md_post1 h sz (by omega) hs (nI q) 2 1 0) (Nat.le_of_ble_eq_true rfl) (Nat.le_of_ble_eq_true rfl) w_487 w_6 hy_Md_post w_484 rfl (Nat.le_of_ble_eq_true rfl) ⟨by decide, by decide⟩ d_Md_work_48 (fun rv M hp => ?_)
        obtain ⟨rfl, hw⟩ := hp
        refine V.eqst (st' := []) rfl (V.cs (k' := 0) (n' := 0) rfl rfl ?_)
        exact v_vret hQ C rfl d_Md_work_51 (by omega) (by omega) ⟨rfl, _, Or.inl ⟨c_6, Or.inr ⟨by rw [if_pos c_10, hc]; exact c_30, rfl⟩⟩, by rw [if_pos c_10]; exact hw⟩
      · refine v_aload_n C (i := 0) d_Md_work_33 rfl rfl ?_
        refine v_iload_n C (i := 1) d_Md_work_34 rfl rfl ?_
        refine v_callV C (As := [.int (nI q)]) (rest := []) h.o cl_Md rfl w_502 wp_23 (ct_Md_putAll h q hq f c hf hc hfc hc3 sz (by omega) hs) (Nat.le_of_ble_eq_true rfl) (Nat.le_of_ble_eq_true rfl) w_503 w_6 hy_Md_putAll w_500 rfl (Nat.le_of_ble_eq_true rfl) ⟨by decide, by decide⟩ d_Md_work_35 (fun rv M hp => ?_)
        obtain ⟨rfl, H, hN, hw⟩ := hp
        refine V.eqst (st' := []) rfl (V.cs (k' := 0) (n' := 0) rfl rfl ?_)
        refine v_goto C 51 d_Md_work_38 (by decide) ?_
        exact v_vret hQ C rfl d_Md_work_51 (by omega) (by omega) ⟨rfl, _, Or.inl ⟨c_6, Or.inl ⟨by rw [if_pos c_10, hc]; exact c_30, H, hN, rfl⟩⟩, hw⟩
set_option maxHeartbeats 4000000 in
set_option maxRecDepth 100000 in
theorem ct_Md_take {D : va_G} {l : Launch} {cI cZ cR cM : ClassId} {M : Mem} {ad : Nat → Nat} {G : G2} (h : R2 cI cZ M ad G) (q : Nat) (hq : q < 120) (su : Nat) (hsu : su < 60) (hu : G.T 16 0 = nI su) (kd nm vl ca : Int32) (hpc : kd = 3 → ∃ k, nm = nI k ∧ k < 3) : Ct TT D cls (tyL cI cZ cR cM) l y_Md_take b_Md_take 6 none 1 26 0 0 [.ref (ad 0), .int (nI q), .int kd, .int nm, .int vl, .int ca] M (fun rv M' => rv = none ∧ ∃ k, (kd = 3 → nm = nI k ∧ k < 3) ∧ R2 cI cZ M' ad ((((G.cr ca).asF q su kd nm).pcF q k kd vl).tk4 q kd)) := by
  refine ct_of "BlockTargetSessionModel" rfl (by decide) (Nat.le_of_ble_eq_true rfl) ?_
  intro Z hl hD hnm hQ C
  subst hl
  subst hD
  show V cls 6 (rmOf 1 26 0 0) Z 0 [(0, .ref (ad 0)), (1, .int (nI q)), (2, .int kd), (3, .int nm), (4, .int vl), (5, .int ca)] [] M 0 0
  refine v_iload C (i := 5) d_Md_take_0 rfl ?_
  refine v_aload_n C (i := 0) d_Md_take_2 rfl rfl ?_
  refine v_get C (v := .int (G.I 7)) in_Md h.o cl_Md 23 (by decide) w_394 rfl rfl d_Md_take_3 ?_
  refine v_icmp_le C 15 d_Md_take_6 (by decide) (fun c_6 => ?_) (fun c_6 => ?_)
  · refine v_iload_n C (i := 2) d_Md_take_15 rfl rfl ?_
    refine v_iconst C (v := 2) d_Md_take_16 (by decide) ?_
    refine v_icmp_ne C 29 d_Md_take_17 (by decide) (fun c_17 => ?_) (fun c_17 => ?_)
    · refine v_iload_n C (i := 2) d_Md_take_29 rfl rfl ?_
      refine v_iconst C (v := 3) d_Md_take_30 (by decide) ?_
      refine v_icmp_ne C 46 d_Md_take_31 (by decide) (fun c_31 => ?_) (fun c_31 => ?_)
      · refine v_iload_n C (i := 2) d_Md_take_46 rfl rfl ?_
        refine v_iconst C (v := 4) d_Md_take_47 (by decide) ?_
        refine v_icmp_ne C 58 d_Md_take_48 (by decide) (fun c_48 => ?_) (fun c_48 => ?_)
        · exact v_vret hQ C rfl d_Md_take_58 (by omega) (by omega) ⟨rfl, 0, fun z => absurd z c_31, by rw [G2.tk4, if_neg c_48, G2.pcF, if_neg c_31, G2.asF, if_neg c_17, G2.cr, if_pos c_6]; exact h⟩
        · refine v_aload_n C (i := 0) d_Md_take_51 rfl rfl ?_
          refine v_get C (v := .ref (ad 8)) in_Md h.o cl_Md 10 (by decide) w_381 rfl rfl d_Md_take_52 ?_
          refine v_iload_n C (i := 1) d_Md_take_55 rfl rfl ?_
          refine v_iconst C (v := 2) d_Md_take_56 (by decide) ?_
          refine v_iast C (N := 120) (f := G.T 8) 0 (h.a 8 (by decide) (by decide)) rfl (pk_in q 120 hq) d_Md_take_57 ?_
          rw [show Int32.toNatClampNeg (nI q) = q from pk_cl _ (hx := rfl)]
          have h : R2 cI cZ (mset M (ad 8) (aI cI 120 (upd (G.T 8) q 2))) ad (G.sT 8 (upd (G.T 8) q 2)) := h.pa 8 (by decide) (by decide) (upd (G.T 8) q 2)
          revert h
          generalize mset M (ad 8) (aI cI 120 (upd (G.T 8) q 2)) = M
          intro h
          exact v_vret hQ C rfl d_Md_take_58 (by omega) (by omega) ⟨rfl, 0, fun z => absurd z c_31, by rw [G2.tk4, if_pos c_48, G2.pcF, if_neg c_31, G2.asF, if_neg c_17, G2.cr, if_pos c_6]; exact h⟩
      · obtain ⟨k, ek, hk⟩ := hpc c_31
        refine v_aload_n C (i := 0) d_Md_take_34 rfl rfl ?_
        refine v_get C (v := .ref (ad 9)) in_Md h.o cl_Md 11 (by decide) w_382 rfl rfl d_Md_take_35 ?_
        refine v_iload_n C (i := 1) d_Md_take_38 rfl rfl ?_
        refine v_iconst C (v := 3) d_Md_take_39 (by decide) ?_
        refine v_imul C d_Md_take_40 ?_
        refine V.eqst (st' := [.int (nI (q * 3)), .ref (ad 9)]) (by rw [show (3 : Int32) = nI 3 from rfl, pk_mul]) ?_
        refine v_iload_n C (i := 3) d_Md_take_41 rfl rfl ?_
        refine V.eqst (st' := [.int (nI k), .int (nI (q * 3)), .ref (ad 9)]) (by rw [ek]) ?_
        refine v_iadd C d_Md_take_42 ?_
        refine V.eqst (st' := [.int (nI (q * 3 + k)), .ref (ad 9)]) (by rw [nI_add]) ?_
        refine v_iload C (i := 4) d_Md_take_43 rfl ?_
        refine v_iast C (N := 360) (f := G.T 9) 0 (h.a 9 (by decide) (by decide)) rfl (pk_in (q * 3 + k) 360 (by omega)) d_Md_take_45 ?_
        rw [show Int32.toNatClampNeg (nI (q * 3 + k)) = q * 3 + k from pk_cl _ (hx := rfl)]
        have h : R2 cI cZ (mset M (ad 9) (aI cI 360 (upd (G.T 9) (q * 3 + k) vl))) ad (G.sT 9 (upd (G.T 9) (q * 3 + k) vl)) := h.pa 9 (by decide) (by decide) (upd (G.T 9) (q * 3 + k) vl)
        revert h
        generalize mset M (ad 9) (aI cI 360 (upd (G.T 9) (q * 3 + k) vl)) = M
        intro h
        refine v_iload_n C (i := 2) d_Md_take_46 rfl rfl ?_
        refine v_iconst C (v := 4) d_Md_take_47 (by decide) ?_
        refine v_icmp_ne C 58 d_Md_take_48 (by decide) (fun c_48 => ?_) (fun c_48 => ?_)
        · exact v_vret hQ C rfl d_Md_take_58 (by omega) (by omega) ⟨rfl, k, fun z => ⟨ek, hk⟩, by rw [G2.tk4, if_neg c_48, G2.pcF, if_pos c_31, G2.asF, if_neg c_17, G2.cr, if_pos c_6]; exact h⟩
        · refine v_aload_n C (i := 0) d_Md_take_51 rfl rfl ?_
          refine v_get C (v := .ref (ad 8)) in_Md h.o cl_Md 10 (by decide) w_381 rfl rfl d_Md_take_52 ?_
          refine v_iload_n C (i := 1) d_Md_take_55 rfl rfl ?_
          refine v_iconst C (v := 2) d_Md_take_56 (by decide) ?_
          refine v_iast C (N := 120) (f := G.T 8) 0 (h.a 8 (by decide) (by decide)) rfl (pk_in q 120 hq) d_Md_take_57 ?_
          rw [show Int32.toNatClampNeg (nI q) = q from pk_cl _ (hx := rfl)]
          have h : R2 cI cZ (mset M (ad 8) (aI cI 120 (upd (G.T 8) q 2))) ad ((G.sT 9 (upd (G.T 9) (q * 3 + k) vl)).sT 8 (upd (G.T 8) q 2)) := h.pa 8 (by decide) (by decide) (upd (G.T 8) q 2)
          revert h
          generalize mset M (ad 8) (aI cI 120 (upd (G.T 8) q 2)) = M
          intro h
          exact v_vret hQ C rfl d_Md_take_58 (by omega) (by omega) ⟨rfl, k, fun z => ⟨ek, hk⟩, by rw [G2.tk4, if_pos c_48, G2.pcF, if_pos c_31, G2.asF, if_neg c_17, G2.cr, if_pos c_6]; exact h⟩
    · refine v_aload_n C (i := 0) d_Md_take_20 rfl rfl ?_
      refine v_iconst C (v := 0) d_Md_take_21 (by decide) ?_
      refine v_iload_n C (i := 1) d_Md_take_22 rfl rfl ?_
      refine v_iconst C (v := 1) d_Md_take_23 (by decide) ?_
      refine v_iload_n C (i := 3) d_Md_take_24 rfl rfl ?_
      refine v_iconst C (v := 0) d_Md_take_25 (by decide) ?_
      refine v_callV C (As := [.int 0, .int (nI q), .int 1, .int nm, .int 0]) (rest := []) h.o cl_Md rfl w_486 wp_20 (ct_Md_post0 h su (by omega) hu (nI q) 1 nm 0) (Nat.le_of_ble_eq_true rfl) (Nat.le_of_ble_eq_true rfl) w_487 w_6 hy_Md_post w_484 rfl (Nat.le_of_ble_eq_true rfl) ⟨by decide, by decide⟩ d_Md_take_26 (fun rv M hp => ?_)
      obtain ⟨rfl, h⟩ := hp
      refine V.eqst (st' := []) rfl (V.cs (k' := 0) (n' := 0) rfl rfl ?_)
      refine v_iload_n C (i := 2) d_Md_take_29 rfl rfl ?_
      refine v_iconst C (v := 3) d_Md_take_30 (by decide) ?_
      refine v_icmp_ne C 46 d_Md_take_31 (by decide) (fun c_31 => ?_) (fun c_31 => ?_)
      · refine v_iload_n C (i := 2) d_Md_take_46 rfl rfl ?_
        refine v_iconst C (v := 4) d_Md_take_47 (by decide) ?_
        refine v_icmp_ne C 58 d_Md_take_48 (by decide) (fun c_48 => ?_) (fun c_48 => ?_)
        · exact v_vret hQ C rfl d_Md_take_58 (by omega) (by omega) ⟨rfl, 0, fun z => absurd z c_31, by rw [G2.tk4, if_neg c_48, G2.pcF, if_neg c_31, G2.asF, if_pos c_17, G2.cr, if_pos c_6]; exact h⟩
        · refine v_aload_n C (i := 0) d_Md_take_51 rfl rfl ?_
          refine v_get C (v := .ref (ad 8)) in_Md h.o cl_Md 10 (by decide) w_381 rfl rfl d_Md_take_52 ?_
          refine v_iload_n C (i := 1) d_Md_take_55 rfl rfl ?_
          refine v_iconst C (v := 2) d_Md_take_56 (by decide) ?_
          refine v_iast C (N := 120) (f := (G.pst 0 su (nI q) 1 nm 0 0).T 8) 0 (h.a 8 (by decide) (by decide)) rfl (pk_in q 120 hq) d_Md_take_57 ?_
          rw [show Int32.toNatClampNeg (nI q) = q from pk_cl _ (hx := rfl)]
          have h : R2 cI cZ (mset M (ad 8) (aI cI 120 (upd ((G.pst 0 su (nI q) 1 nm 0 0).T 8) q 2))) ad ((G.pst 0 su (nI q) 1 nm 0 0).sT 8 (upd ((G.pst 0 su (nI q) 1 nm 0 0).T 8) q 2)) := h.pa 8 (by decide) (by decide) (upd ((G.pst 0 su (nI q) 1 nm 0 0).T 8) q 2)
          revert h
          generalize mset M (ad 8) (aI cI 120 (upd ((G.pst 0 su (nI q) 1 nm 0 0).T 8) q 2)) = M
          intro h
          exact v_vret hQ C rfl d_Md_take_58 (by omega) (by omega) ⟨rfl, 0, fun z => absurd z c_31, by rw [G2.tk4, if_pos c_48, G2.pcF, if_neg c_31, G2.asF, if_pos c_17, G2.cr, if_pos c_6]; exact h⟩
      · obtain ⟨k, ek, hk⟩ := hpc c_31
        refine v_aload_n C (i := 0) d_Md_take_34 rfl rfl ?_
        refine v_get C (v := .ref (ad 9)) in_Md h.o cl_Md 11 (by decide) w_382 rfl rfl d_Md_take_35 ?_
        refine v_iload_n C (i := 1) d_Md_take_38 rfl rfl ?_
        refine v_iconst C (v := 3) d_Md_take_39 (by decide) ?_
        refine v_imul C d_Md_take_40 ?_
        refine V.eqst (st' := [.int (nI (q * 3)), .ref (ad 9)]) (by rw [show (3 : Int32) = nI 3 from rfl, pk_mul]) ?_
        refine v_iload_n C (i := 3) d_Md_take_41 rfl rfl ?_
        refine V.eqst (st' := [.int (nI k), .int (nI (q * 3)), .ref (ad 9)]) (by rw [ek]) ?_
        refine v_iadd C d_Md_take_42 ?_
        refine V.eqst (st' := [.int (nI (q * 3 + k)), .ref (ad 9)]) (by rw [nI_add]) ?_
        refine v_iload C (i := 4) d_Md_take_43 rfl ?_
        refine v_iast C (N := 360) (f := (G.pst 0 su (nI q) 1 nm 0 0).T 9) 0 (h.a 9 (by decide) (by decide)) rfl (pk_in (q * 3 + k) 360 (by omega)) d_Md_take_45 ?_
        rw [show Int32.toNatClampNeg (nI (q * 3 + k)) = q * 3 + k from pk_cl _ (hx := rfl)]
        have h : R2 cI cZ (mset M (ad 9) (aI cI 360 (upd ((G.pst 0 su (nI q) 1 nm 0 0).T 9) (q * 3 + k) vl))) ad ((G.pst 0 su (nI q) 1 nm 0 0).sT 9 (upd ((G.pst 0 su (nI q) 1 nm 0 0).T 9) (q * 3 + k) vl)) := h.pa 9 (by decide) (by decide) (upd ((G.pst 0 su (nI q) 1 nm 0 0).T 9) (q * 3 + k) vl)
        revert h
        generalize mset M (ad 9) (aI cI 360 (upd ((G.pst 0 su (nI q) 1 nm 0 0).T 9) (q * 3 + k) vl)) = M
        intro h
        refine v_iload_n C (i := 2) d_Md_take_46 rfl rfl ?_
        refine v_iconst C (v := 4) d_Md_take_47 (by decide) ?_
        refine v_icmp_ne C 58 d_Md_take_48 (by decide) (fun c_48 => ?_) (fun c_48 => ?_)
        · exact v_vret hQ C rfl d_Md_take_58 (by omega) (by omega) ⟨rfl, k, fun z => ⟨ek, hk⟩, by rw [G2.tk4, if_neg c_48, G2.pcF, if_pos c_31, G2.asF, if_pos c_17, G2.cr, if_pos c_6]; exact h⟩
        · refine v_aload_n C (i := 0) d_Md_take_51 rfl rfl ?_
          refine v_get C (v := .ref (ad 8)) in_Md h.o cl_Md 10 (by decide) w_381 rfl rfl d_Md_take_52 ?_
          refine v_iload_n C (i := 1) d_Md_take_55 rfl rfl ?_
          refine v_iconst C (v := 2) d_Md_take_56 (by decide) ?_
          refine v_iast C (N := 120) (f := (G.pst 0 su (nI q) 1 nm 0 0).T 8) 0 (h.a 8 (by decide) (by decide)) rfl (pk_in q 120 hq) d_Md_take_57 ?_
          rw [show Int32.toNatClampNeg (nI q) = q from pk_cl _ (hx := rfl)]
          have h : R2 cI cZ (mset M (ad 8) (aI cI 120 (upd ((G.pst 0 su (nI q) 1 nm 0 0).T 8) q 2))) ad (((G.pst 0 su (nI q) 1 nm 0 0).sT 9 (upd ((G.pst 0 su (nI q) 1 nm 0 0).T 9) (q * 3 + k) vl)).sT 8 (upd ((G.pst 0 su (nI q) 1 nm 0 0).T 8) q 2)) := h.pa 8 (by decide) (by decide) (upd ((G.pst 0 su (nI q) 1 nm 0 0).T 8) q 2)
          revert h
          generalize mset M (ad 8) (aI cI 120 (upd ((G.pst 0 su (nI q) 1 nm 0 0).T 8) q 2)) = M
          intro h
          exact v_vret hQ C rfl d_Md_take_58 (by omega) (by omega) ⟨rfl, k, fun z => ⟨ek, hk⟩, by rw [G2.tk4, if_pos c_48, G2.pcF, if_pos c_31, G2.asF, if_pos c_17, G2.cr, if_pos c_6]; exact h⟩
  · refine v_aload_n C (i := 0) d_Md_take_9 rfl rfl ?_
    refine v_iload C (i := 5) d_Md_take_10 rfl ?_
    refine v_put C in_Md t_Md to_Md nm_Md h.o cl_Md 23 (by decide) (fs' := [.int (G.I 0), .int (G.I 1), .ref (ad 1), .ref (ad 2), .ref (ad 3), .int (G.I 2), .ref (ad 4), .ref (ad 5), .ref (ad 6), .ref (ad 7), .ref (ad 8), .ref (ad 9), .int (G.I 3), .ref (ad 10), .ref (ad 11), .ref (ad 12), .ref (ad 13), .ref (ad 14), .ref (ad 15), .ref (ad 16), .int (G.I 4), .int (G.I 5), .int (G.I 6), .int ca, .int (G.I 8)]) w_394 rfl rfl rfl rfl (Nat.le_of_ble_eq_true rfl) rfl d_Md_take_12 ?_
    have h : R2 cI cZ (mset M (ad 0) (ob 5 [.int (G.I 0), .int (G.I 1), .ref (ad 1), .ref (ad 2), .ref (ad 3), .int (G.I 2), .ref (ad 4), .ref (ad 5), .ref (ad 6), .ref (ad 7), .ref (ad 8), .ref (ad 9), .int (G.I 3), .ref (ad 10), .ref (ad 11), .ref (ad 12), .ref (ad 13), .ref (ad 14), .ref (ad 15), .ref (ad 16), .int (G.I 4), .int (G.I 5), .int (G.I 6), .int ca, .int (G.I 8)])) ad (G.sI 7 ca) := h.po 7 ca
    revert h
    generalize mset M (ad 0) (ob 5 [.int (G.I 0), .int (G.I 1), .ref (ad 1), .ref (ad 2), .ref (ad 3), .int (G.I 2), .ref (ad 4), .ref (ad 5), .ref (ad 6), .ref (ad 7), .ref (ad 8), .ref (ad 9), .int (G.I 3), .ref (ad 10), .ref (ad 11), .ref (ad 12), .ref (ad 13), .ref (ad 14), .ref (ad 15), .ref (ad 16), .int (G.I 4), .int (G.I 5), .int (G.I 6), .int ca, .int (G.I 8)]) = M
    intro h
    refine v_iload_n C (i := 2) d_Md_take_15 rfl rfl ?_
    refine v_iconst C (v := 2) d_Md_take_16 (by decide) ?_
    refine v_icmp_ne C 29 d_Md_take_17 (by decide) (fun c_17 => ?_) (fun c_17 => ?_)
    · refine v_iload_n C (i := 2) d_Md_take_29 rfl rfl ?_
      refine v_iconst C (v := 3) d_Md_take_30 (by decide) ?_
      refine v_icmp_ne C 46 d_Md_take_31 (by decide) (fun c_31 => ?_) (fun c_31 => ?_)
      · refine v_iload_n C (i := 2) d_Md_take_46 rfl rfl ?_
        refine v_iconst C (v := 4) d_Md_take_47 (by decide) ?_
        refine v_icmp_ne C 58 d_Md_take_48 (by decide) (fun c_48 => ?_) (fun c_48 => ?_)
        · exact v_vret hQ C rfl d_Md_take_58 (by omega) (by omega) ⟨rfl, 0, fun z => absurd z c_31, by rw [G2.tk4, if_neg c_48, G2.pcF, if_neg c_31, G2.asF, if_neg c_17, G2.cr, if_neg c_6]; exact h⟩
        · refine v_aload_n C (i := 0) d_Md_take_51 rfl rfl ?_
          refine v_get C (v := .ref (ad 8)) in_Md h.o cl_Md 10 (by decide) w_381 rfl rfl d_Md_take_52 ?_
          refine v_iload_n C (i := 1) d_Md_take_55 rfl rfl ?_
          refine v_iconst C (v := 2) d_Md_take_56 (by decide) ?_
          refine v_iast C (N := 120) (f := G.T 8) 0 (h.a 8 (by decide) (by decide)) rfl (pk_in q 120 hq) d_Md_take_57 ?_
          rw [show Int32.toNatClampNeg (nI q) = q from pk_cl _ (hx := rfl)]
          have h : R2 cI cZ (mset M (ad 8) (aI cI 120 (upd (G.T 8) q 2))) ad ((G.sI 7 ca).sT 8 (upd (G.T 8) q 2)) := h.pa 8 (by decide) (by decide) (upd (G.T 8) q 2)
          revert h
          generalize mset M (ad 8) (aI cI 120 (upd (G.T 8) q 2)) = M
          intro h
          exact v_vret hQ C rfl d_Md_take_58 (by omega) (by omega) ⟨rfl, 0, fun z => absurd z c_31, by rw [G2.tk4, if_pos c_48, G2.pcF, if_neg c_31, G2.asF, if_neg c_17, G2.cr, if_neg c_6]; exact h⟩
      · obtain ⟨k, ek, hk⟩ := hpc c_31
        refine v_aload_n C (i := 0) d_Md_take_34 rfl rfl ?_
        refine v_get C (v := .ref (ad 9)) in_Md h.o cl_Md 11 (by decide) w_382 rfl rfl d_Md_take_35 ?_
        refine v_iload_n C (i := 1) d_Md_take_38 rfl rfl ?_
        refine v_iconst C (v := 3) d_Md_take_39 (by decide) ?_
        refine v_imul C d_Md_take_40 ?_
        refine V.eqst (st' := [.int (nI (q * 3)), .ref (ad 9)]) (by rw [show (3 : Int32) = nI 3 from rfl, pk_mul]) ?_
        refine v_iload_n C (i := 3) d_Md_take_41 rfl rfl ?_
        refine V.eqst (st' := [.int (nI k), .int (nI (q * 3)), .ref (ad 9)]) (by rw [ek]) ?_
        refine v_iadd C d_Md_take_42 ?_
        refine V.eqst (st' := [.int (nI (q * 3 + k)), .ref (ad 9)]) (by rw [nI_add]) ?_
        refine v_iload C (i := 4) d_Md_take_43 rfl ?_
        refine v_iast C (N := 360) (f := G.T 9) 0 (h.a 9 (by decide) (by decide)) rfl (pk_in (q * 3 + k) 360 (by omega)) d_Md_take_45 ?_
        rw [show Int32.toNatClampNeg (nI (q * 3 + k)) = q * 3 + k from pk_cl _ (hx := rfl)]
        have h : R2 cI cZ (mset M (ad 9) (aI cI 360 (upd (G.T 9) (q * 3 + k) vl))) ad ((G.sI 7 ca).sT 9 (upd (G.T 9) (q * 3 + k) vl)) := h.pa 9 (by decide) (by decide) (upd (G.T 9) (q * 3 + k) vl)
        revert h
        generalize mset M (ad 9) (aI cI 360 (upd (G.T 9) (q * 3 + k) vl)) = M
        intro h
        refine v_iload_n C (i := 2) d_Md_take_46 rfl rfl ?_
        refine v_iconst C (v := 4) d_Md_take_47 (by decide) ?_
        refine v_icmp_ne C 58 d_Md_take_48 (by decide) (fun c_48 => ?_) (fun c_48 => ?_)
        · exact v_vret hQ C rfl d_Md_take_58 (by omega) (by omega) ⟨rfl, k, fun z => ⟨ek, hk⟩, by rw [G2.tk4, if_neg c_48, G2.pcF, if_pos c_31, G2.asF, if_neg c_17, G2.cr, if_neg c_6]; exact h⟩
        · refine v_aload_n C (i := 0) d_Md_take_51 rfl rfl ?_
          refine v_get C (v := .ref (ad 8)) in_Md h.o cl_Md 10 (by decide) w_381 rfl rfl d_Md_take_52 ?_
          refine v_iload_n C (i := 1) d_Md_take_55 rfl rfl ?_
          refine v_iconst C (v := 2) d_Md_take_56 (by decide) ?_
          refine v_iast C (N := 120) (f := G.T 8) 0 (h.a 8 (by decide) (by decide)) rfl (pk_in q 120 hq) d_Md_take_57 ?_
          rw [show Int32.toNatClampNeg (nI q) = q from pk_cl _ (hx := rfl)]
          have h : R2 cI cZ (mset M (ad 8) (aI cI 120 (upd (G.T 8) q 2))) ad (((G.sI 7 ca).sT 9 (upd (G.T 9) (q * 3 + k) vl)).sT 8 (upd (G.T 8) q 2)) := h.pa 8 (by decide) (by decide) (upd (G.T 8) q 2)
          revert h
          generalize mset M (ad 8) (aI cI 120 (upd (G.T 8) q 2)) = M
          intro h
          exact v_vret hQ C rfl d_Md_take_58 (by omega) (by omega) ⟨rfl, k, fun z => ⟨ek, hk⟩, by rw [G2.tk4, if_pos c_48, G2.pcF, if_pos c_31, G2.asF, if_neg c_17, G2.cr, if_neg c_6]; exact h⟩
    · refine v_aload_n C (i := 0) d_Md_take_20 rfl rfl ?_
      refine v_iconst C (v := 0) d_Md_take_21 (by decide) ?_
      refine v_iload_n C (i := 1) d_Md_take_22 rfl rfl ?_
      refine v_iconst C (v := 1) d_Md_take_23 (by decide) ?_
      refine v_iload_n C (i := 3) d_Md_take_24 rfl rfl ?_
      refine v_iconst C (v := 0) d_Md_take_25 (by decide) ?_
      refine v_callV C (As := [.int 0, .int (nI q), .int 1, .int nm, .int 0]) (rest := []) h.o cl_Md rfl w_486 wp_20 (ct_Md_post0 h su (by omega) hu (nI q) 1 nm 0) (Nat.le_of_ble_eq_true rfl) (Nat.le_of_ble_eq_true rfl) w_487 w_6 hy_Md_post w_484 rfl (Nat.le_of_ble_eq_true rfl) ⟨by decide, by decide⟩ d_Md_take_26 (fun rv M hp => ?_)
      obtain ⟨rfl, h⟩ := hp
      refine V.eqst (st' := []) rfl (V.cs (k' := 0) (n' := 0) rfl rfl ?_)
      refine v_iload_n C (i := 2) d_Md_take_29 rfl rfl ?_
      refine v_iconst C (v := 3) d_Md_take_30 (by decide) ?_
      refine v_icmp_ne C 46 d_Md_take_31 (by decide) (fun c_31 => ?_) (fun c_31 => ?_)
      · refine v_iload_n C (i := 2) d_Md_take_46 rfl rfl ?_
        refine v_iconst C (v := 4) d_Md_take_47 (by decide) ?_
        refine v_icmp_ne C 58 d_Md_take_48 (by decide) (fun c_48 => ?_) (fun c_48 => ?_)
        · exact v_vret hQ C rfl d_Md_take_58 (by omega) (by omega) ⟨rfl, 0, fun z => absurd z c_31, by rw [G2.tk4, if_neg c_48, G2.pcF, if_neg c_31, G2.asF, if_pos c_17, G2.cr, if_neg c_6]; exact h⟩
        · refine v_aload_n C (i := 0) d_Md_take_51 rfl rfl ?_
          refine v_get C (v := .ref (ad 8)) in_Md h.o cl_Md 10 (by decide) w_381 rfl rfl d_Md_take_52 ?_
          refine v_iload_n C (i := 1) d_Md_take_55 rfl rfl ?_
          refine v_iconst C (v := 2) d_Md_take_56 (by decide) ?_
          refine v_iast C (N := 120) (f := ((G.sI 7 ca).pst 0 su (nI q) 1 nm 0 0).T 8) 0 (h.a 8 (by decide) (by decide)) rfl (pk_in q 120 hq) d_Md_take_57 ?_
          rw [show Int32.toNatClampNeg (nI q) = q from pk_cl _ (hx := rfl)]
          have h : R2 cI cZ (mset M (ad 8) (aI cI 120 (upd (((G.sI 7 ca).pst 0 su (nI q) 1 nm 0 0).T 8) q 2))) ad (((G.sI 7 ca).pst 0 su (nI q) 1 nm 0 0).sT 8 (upd (((G.sI 7 ca).pst 0 su (nI q) 1 nm 0 0).T 8) q 2)) := h.pa 8 (by decide) (by decide) (upd (((G.sI 7 ca).pst 0 su (nI q) 1 nm 0 0).T 8) q 2)
          revert h
          generalize mset M (ad 8) (aI cI 120 (upd (((G.sI 7 ca).pst 0 su (nI q) 1 nm 0 0).T 8) q 2)) = M
          intro h
          exact v_vret hQ C rfl d_Md_take_58 (by omega) (by omega) ⟨rfl, 0, fun z => absurd z c_31, by rw [G2.tk4, if_pos c_48, G2.pcF, if_neg c_31, G2.asF, if_pos c_17, G2.cr, if_neg c_6]; exact h⟩
      · obtain ⟨k, ek, hk⟩ := hpc c_31
        refine v_aload_n C (i := 0) d_Md_take_34 rfl rfl ?_
        refine v_get C (v := .ref (ad 9)) in_Md h.o cl_Md 11 (by decide) w_382 rfl rfl d_Md_take_35 ?_
        refine v_iload_n C (i := 1) d_Md_take_38 rfl rfl ?_
        refine v_iconst C (v := 3) d_Md_take_39 (by decide) ?_
        refine v_imul C d_Md_take_40 ?_
        refine V.eqst (st' := [.int (nI (q * 3)), .ref (ad 9)]) (by rw [show (3 : Int32) = nI 3 from rfl, pk_mul]) ?_
        refine v_iload_n C (i := 3) d_Md_take_41 rfl rfl ?_
        refine V.eqst (st' := [.int (nI k), .int (nI (q * 3)), .ref (ad 9)]) (by rw [ek]) ?_
        refine v_iadd C d_Md_take_42 ?_
        refine V.eqst (st' := [.int (nI (q * 3 + k)), .ref (ad 9)]) (by rw [nI_add]) ?_
        refine v_iload C (i := 4) d_Md_take_43 rfl ?_
        refine v_iast C (N := 360) (f := ((G.sI 7 ca).pst 0 su (nI q) 1 nm 0 0).T 9) 0 (h.a 9 (by decide) (by decide)) rfl (pk_in (q * 3 + k) 360 (by omega)) d_Md_take_45 ?_
        rw [show Int32.toNatClampNeg (nI (q * 3 + k)) = q * 3 + k from pk_cl _ (hx := rfl)]
        have h : R2 cI cZ (mset M (ad 9) (aI cI 360 (upd (((G.sI 7 ca).pst 0 su (nI q) 1 nm 0 0).T 9) (q * 3 + k) vl))) ad (((G.sI 7 ca).pst 0 su (nI q) 1 nm 0 0).sT 9 (upd (((G.sI 7 ca).pst 0 su (nI q) 1 nm 0 0).T 9) (q * 3 + k) vl)) := h.pa 9 (by decide) (by decide) (upd (((G.sI 7 ca).pst 0 su (nI q) 1 nm 0 0).T 9) (q * 3 + k) vl)
        revert h
        generalize mset M (ad 9) (aI cI 360 (upd (((G.sI 7 ca).pst 0 su (nI q) 1 nm 0 0).T 9) (q * 3 + k) vl)) = M
        intro h
        refine v_iload_n C (i := 2) d_Md_take_46 rfl rfl ?_
        refine v_iconst C (v := 4) d_Md_take_47 (by decide) ?_
        refine v_icmp_ne C 58 d_Md_take_48 (by decide) (fun c_48 => ?_) (fun c_48 => ?_)
        · exact v_vret hQ C rfl d_Md_take_58 (by omega) (by omega) ⟨rfl, k, fun z => ⟨ek, hk⟩, by rw [G2.tk4, if_neg c_48, G2.pcF, if_pos c_31, G2.asF, if_pos c_17, G2.cr, if_neg c_6]; exact h⟩
        · refine v_aload_n C (i := 0) d_Md_take_51 rfl rfl ?_
          refine v_get C (v := .ref (ad 8)) in_Md h.o cl_Md 10 (by decide) w_381 rfl rfl d_Md_take_52 ?_
          refine v_iload_n C (i := 1) d_Md_take_55 rfl rfl ?_
          refine v_iconst C (v := 2) d_Md_take_56 (by decide) ?_
          refine v_iast C (N := 120) (f := ((G.sI 7 ca).pst 0 su (nI q) 1 nm 0 0).T 8) 0 (h.a 8 (by decide) (by decide)) rfl (pk_in q 120 hq) d_Md_take_57 ?_
          rw [show Int32.toNatClampNeg (nI q) = q from pk_cl _ (hx := rfl)]
          have h : R2 cI cZ (mset M (ad 8) (aI cI 120 (upd (((G.sI 7 ca).pst 0 su (nI q) 1 nm 0 0).T 8) q 2))) ad ((((G.sI 7 ca).pst 0 su (nI q) 1 nm 0 0).sT 9 (upd (((G.sI 7 ca).pst 0 su (nI q) 1 nm 0 0).T 9) (q * 3 + k) vl)).sT 8 (upd (((G.sI 7 ca).pst 0 su (nI q) 1 nm 0 0).T 8) q 2)) := h.pa 8 (by decide) (by decide) (upd (((G.sI 7 ca).pst 0 su (nI q) 1 nm 0 0).T 8) q 2)
          revert h
          generalize mset M (ad 8) (aI cI 120 (upd (((G.sI 7 ca).pst 0 su (nI q) 1 nm 0 0).T 8) q 2)) = M
          intro h
          exact v_vret hQ C rfl d_Md_take_58 (by omega) (by omega) ⟨rfl, k, fun z => ⟨ek, hk⟩, by rw [G2.tk4, if_pos c_48, G2.pcF, if_pos c_31, G2.asF, if_pos c_17, G2.cr, if_neg c_6]; exact h⟩
set_option maxHeartbeats 4000000 in
set_option maxRecDepth 100000 in
theorem ct_Md_end {D : va_G} {l : Launch} {cI cZ cR cM : ClassId} {M : Mem} {ad : Nat → Nat} {G : G2} (h : R2 cI cZ M ad G) (n : Nat) (hn : G.I 3 = nI n) (hn120 : n ≤ 120) : Ct TT D cls (tyL cI cZ cR cM) l y_Md_end b_Md_end 2 none 0 0 0 0 [.ref (ad 0)] M (fun rv M' => rv = none ∧ R2 cI cZ M' ad (G.end_ n)) := by
  refine ct_of "BlockTargetSessionModel" rfl (by decide) (Nat.le_of_ble_eq_true rfl) ?_
  intro Z hl hD hnm hQ C
  subst hl
  subst hD
  show V cls 2 (rmOf 0 0 0 0) Z 0 [(0, .ref (ad 0))] [] M 0 0
  refine v_aload_n C (i := 0) d_Md_end_0 rfl rfl ?_
  refine v_iconst C (v := 0) d_Md_end_1 (by decide) ?_
  refine v_put C in_Md t_Md to_Md nm_Md h.o cl_Md 20 (by decide) (fs' := [.int (G.I 0), .int (G.I 1), .ref (ad 1), .ref (ad 2), .ref (ad 3), .int (G.I 2), .ref (ad 4), .ref (ad 5), .ref (ad 6), .ref (ad 7), .ref (ad 8), .ref (ad 9), .int (G.I 3), .ref (ad 10), .ref (ad 11), .ref (ad 12), .ref (ad 13), .ref (ad 14), .ref (ad 15), .ref (ad 16), .int 0, .int (G.I 5), .int (G.I 6), .int (G.I 7), .int (G.I 8)]) w_391 rfl rfl rfl rfl (Nat.le_of_ble_eq_true rfl) rfl d_Md_end_2 ?_
  have h : R2 cI cZ (mset M (ad 0) (ob 5 [.int (G.I 0), .int (G.I 1), .ref (ad 1), .ref (ad 2), .ref (ad 3), .int (G.I 2), .ref (ad 4), .ref (ad 5), .ref (ad 6), .ref (ad 7), .ref (ad 8), .ref (ad 9), .int (G.I 3), .ref (ad 10), .ref (ad 11), .ref (ad 12), .ref (ad 13), .ref (ad 14), .ref (ad 15), .ref (ad 16), .int 0, .int (G.I 5), .int (G.I 6), .int (G.I 7), .int (G.I 8)])) ad (G.sI 4 0) := h.po 4 0
  revert h
  generalize mset M (ad 0) (ob 5 [.int (G.I 0), .int (G.I 1), .ref (ad 1), .ref (ad 2), .ref (ad 3), .int (G.I 2), .ref (ad 4), .ref (ad 5), .ref (ad 6), .ref (ad 7), .ref (ad 8), .ref (ad 9), .int (G.I 3), .ref (ad 10), .ref (ad 11), .ref (ad 12), .ref (ad 13), .ref (ad 14), .ref (ad 15), .ref (ad 16), .int 0, .int (G.I 5), .int (G.I 6), .int (G.I 7), .int (G.I 8)]) = M
  intro h
  refine v_aload_n C (i := 0) d_Md_end_5 rfl rfl ?_
  refine v_get C (v := .ref (ad 16)) in_Md h.o cl_Md 19 (by decide) w_390 rfl rfl d_Md_end_6 ?_
  refine v_iconst C (v := 0) d_Md_end_9 (by decide) ?_
  refine v_iconst C (v := 0) d_Md_end_10 (by decide) ?_
  refine v_iast C (N := 2) (f := G.T 16) 0 h.hd rfl (pk_in 0 2 (by decide) nI_0.symm) d_Md_end_11 ?_
  rw [show Int32.toNatClampNeg 0 = 0 from pk_cl _ (hx := nI_0.symm)]
  have h : R2 cI cZ (mset M (ad 16) (aI cI 2 (upd (G.T 16) 0 0))) ad ((G.sI 4 0).sT 16 (upd (G.T 16) 0 0)) := h.pa 16 (by decide) (by decide) (upd (G.T 16) 0 0)
  revert h
  generalize mset M (ad 16) (aI cI 2 (upd (G.T 16) 0 0)) = M
  intro h
  refine v_aload_n C (i := 0) d_Md_end_12 rfl rfl ?_
  refine v_get C (v := .ref (ad 16)) in_Md h.o cl_Md 19 (by decide) w_390 rfl rfl d_Md_end_13 ?_
  refine v_iconst C (v := 1) d_Md_end_16 (by decide) ?_
  refine v_iconst C (v := 0) d_Md_end_17 (by decide) ?_
  refine v_iast C (N := 2) (f := upd (G.T 16) 0 0) 0 h.hd rfl (pk_in 1 2 (by decide) (by decide)) d_Md_end_18 ?_
  rw [show Int32.toNatClampNeg 1 = 1 from pk_cl _ (hx := by decide)]
  have h : R2 cI cZ (mset M (ad 16) (aI cI 2 (upd (upd (G.T 16) 0 0) 1 0))) ad (((G.sI 4 0).sT 16 (upd (G.T 16) 0 0)).sT 16 (upd (upd (G.T 16) 0 0) 1 0)) := h.pa 16 (by decide) (by decide) (upd (upd (G.T 16) 0 0) 1 0)
  revert h
  generalize mset M (ad 16) (aI cI 2 (upd (upd (G.T 16) 0 0) 1 0)) = M
  intro h
  refine v_iconst C (v := 0) d_Md_end_19 (by decide) ?_
  refine v_istore_n C (i := 1) (lv' := [(1, .int 0), (0, .ref (ad 0))]) d_Md_end_20 rfl (by decide) rfl ?_
  obtain ⟨Hb, hHb⟩ : ∃ Hb, Hb = (((G.sI 4 0).sT 16 (upd (G.T 16) 0 0)).sT 16 (upd (upd (G.T 16) 0 0) 1 0)) := ⟨_, rfl⟩
  rw [← hHb] at h
  have b3 : Hb.I 3 = nI n := by rw [hHb]; exact hn
  have b8 : Hb.T 8 = G.T 8 := by rw [hHb]; rfl
  have L : ∀ (fu i : Nat) (M : Mem), n - i < fu → i ≤ n → R2 cI cZ M ad (Hb.sT 8 (rop (G.T 8) i)) → V cls 2 (rmOf 0 0 0 0) Z 21 [(1, .int (nI i)), (0, .ref (ad 0))] [] M 0 0 := by
    intro fu
    induction fu with
    | zero => intro i M hf; omega
    | succ fu ih =>
      intro i M hf hi h
      refine v_iload_n C (i := 1) d_Md_end_21 rfl rfl ?_
      refine v_aload_n C (i := 0) d_Md_end_22 rfl rfl ?_
      refine v_get C (v := .int (Hb.I 3)) in_Md h.o cl_Md 12 (by decide) w_383 rfl rfl d_Md_end_23 ?_
      refine V.eqst (st' := [.int (nI n), .int (nI i)]) (by rw [b3]) ?_
      refine v_icmp_ge C 52 d_Md_end_26 (by decide) (fun c_26 => ?_) (fun c_26 => ?_)
      · have hi2 : i = n := Nat.le_antisymm hi ((nI_leI (by omega) (by omega)).mp c_26)
        exact v_vret hQ C rfl d_Md_end_52 (by omega) (by omega) ⟨rfl, by rw [hi2, hHb] at h; exact h⟩
      · have hi2 : i < n := Nat.lt_of_not_le (fun z => c_26 ((nI_leI (by omega) (by omega)).mpr z))
        refine v_aload_n C (i := 0) d_Md_end_29 rfl rfl ?_
        refine v_get C (v := .ref (ad 8)) in_Md h.o cl_Md 10 (by decide) w_381 rfl rfl d_Md_end_30 ?_
        refine v_iload_n C (i := 1) d_Md_end_33 rfl rfl ?_
        refine v_iald C (N := 120) (f := rop (G.T 8) i) 0 (h.a 8 (by decide) (by decide)) rfl (pk_in i 120 (by omega)) d_Md_end_34 ?_
        refine V.eqst (st' := [.int ((rop (G.T 8) i) i)]) (by rw [show Int32.toNatClampNeg (nI i) = i from pk_cl _ (hx := rfl)]) ?_
        refine v_iconst C (v := 1) d_Md_end_35 (by decide) ?_
        refine v_icmp_ne C 46 d_Md_end_36 (by decide) (fun c_36 => ?_) (fun c_36 => ?_)
        · rw [rop_at] at c_36
          refine v_iinc C (i := 1) (j := 0) (v := nI (i + 1)) (lv' := [(1, .int (nI (i + 1))), (0, .ref (ad 0))]) d_Md_end_46 rfl (nI_1 i) (by decide) rfl ?_
          refine v_goto C 21 d_Md_end_49 (by decide) ?_
          exact ih (i + 1) M (by omega) (by omega) (by rw [← rop_f _ _ c_36]; exact h)
        · rw [rop_at] at c_36
          refine v_aload_n C (i := 0) d_Md_end_39 rfl rfl ?_
          refine v_get C (v := .ref (ad 8)) in_Md h.o cl_Md 10 (by decide) w_381 rfl rfl d_Md_end_40 ?_
          refine v_iload_n C (i := 1) d_Md_end_43 rfl rfl ?_
          refine v_iconst C (v := 0) d_Md_end_44 (by decide) ?_
          refine v_iast C (N := 120) (f := rop (G.T 8) i) 0 (h.a 8 (by decide) (by decide)) rfl (pk_in i 120 (by omega)) d_Md_end_45 ?_
          rw [show Int32.toNatClampNeg (nI i) = i from pk_cl _ (hx := rfl)]
          have h : R2 cI cZ (mset M (ad 8) (aI cI 120 (upd (rop (G.T 8) i) i 0))) ad ((Hb.sT 8 (rop (G.T 8) i)).sT 8 (upd (rop (G.T 8) i) i 0)) := h.pa 8 (by decide) (by decide) (upd (rop (G.T 8) i) i 0)
          revert h
          generalize mset M (ad 8) (aI cI 120 (upd (rop (G.T 8) i) i 0)) = M
          intro h
          rw [G2.sT_same, rop_t _ _ c_36] at h
          refine v_iinc C (i := 1) (j := 0) (v := nI (i + 1)) (lv' := [(1, .int (nI (i + 1))), (0, .ref (ad 0))]) d_Md_end_46 rfl (nI_1 i) (by decide) rfl ?_
          refine v_goto C 21 d_Md_end_49 (by decide) ?_
          exact ih (i + 1) M (by omega) (by omega) h
  refine V.pick (lv' := [(1, .int (nI 0)), (0, .ref (ad 0))]) [0, 1] (by rw [nI_0]; rfl) ?_
  refine L (n + 1) 0 M (by omega) (by omega) ?_
  rw [rop_0, ← b8, G2.sT_id]
  exact h
