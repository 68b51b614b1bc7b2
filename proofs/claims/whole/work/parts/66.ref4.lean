def isO (x c : Int32) : Prop := x < 0 ∨ 15 < x ∨ c < 1 ∨ 3 < c ∨ ¬ x + c ≤ 16
set_option maxHeartbeats 4000000 in
set_option maxRecDepth 100000 in
theorem ct_Md_outside {D : va_G} {l : Launch} {cI cZ cR cM : ClassId} {M : Mem} {ad : Nat → Nat} {G : G2} (h : R2 cI cZ M ad G) (x c : Int32) : Ct TT D cls (tyL cI cZ cR cM) l y_Md_outside b_Md_outside 3 (some .boolean) 0 0 0 0 [.ref (ad 0), .int x, .int c] M (fun rv M' => (isO x c ∧ rv = some (.int 1) ∧ M' = M) ∨ (¬ isO x c ∧ rv = some (.int 0) ∧ M' = M)) := by
  refine ct_of "BlockTargetSessionModel" rfl (by decide) (Nat.le_of_ble_eq_true rfl) ?_
  intro Z hl hD hnm hQ C
  subst hl
  subst hD
  show V cls 3 (rmOf 0 0 0 0) Z 0 [(0, .ref (ad 0)), (1, .int x), (2, .int c)] [] M 0 0
  refine v_iload_n C (i := 1) d_Md_outside_0 rfl rfl ?_
  refine v_if_lt C 28 d_Md_outside_1 (by decide) (fun c_1 => ?_) (fun c_1 => ?_)
  · refine v_iconst C (v := 1) d_Md_outside_28 (by decide) ?_
    refine v_goto C 33 d_Md_outside_29 (by decide) ?_
    exact v_zret hQ C rfl rfl d_Md_outside_33 (by omega) (by omega) (Or.inl ⟨Or.inl c_1, rfl, rfl⟩)
  · refine v_iload_n C (i := 1) d_Md_outside_4 rfl rfl ?_
    refine v_bipush C (v := 15) d_Md_outside_5 (by decide) ?_
    refine v_icmp_gt C 28 d_Md_outside_7 (by decide) (fun c_7 => ?_) (fun c_7 => ?_)
    · refine v_iconst C (v := 1) d_Md_outside_28 (by decide) ?_
      refine v_goto C 33 d_Md_outside_29 (by decide) ?_
      exact v_zret hQ C rfl rfl d_Md_outside_33 (by omega) (by omega) (Or.inl ⟨Or.inr (Or.inl c_7), rfl, rfl⟩)
    · refine v_iload_n C (i := 2) d_Md_outside_10 rfl rfl ?_
      refine v_iconst C (v := 1) d_Md_outside_11 (by decide) ?_
      refine v_icmp_lt C 28 d_Md_outside_12 (by decide) (fun c_12 => ?_) (fun c_12 => ?_)
      · refine v_iconst C (v := 1) d_Md_outside_28 (by decide) ?_
        refine v_goto C 33 d_Md_outside_29 (by decide) ?_
        exact v_zret hQ C rfl rfl d_Md_outside_33 (by omega) (by omega) (Or.inl ⟨Or.inr (Or.inr (Or.inl c_12)), rfl, rfl⟩)
      · refine v_iload_n C (i := 2) d_Md_outside_15 rfl rfl ?_
        refine v_iconst C (v := 3) d_Md_outside_16 (by decide) ?_
        refine v_icmp_gt C 28 d_Md_outside_17 (by decide) (fun c_17 => ?_) (fun c_17 => ?_)
        · refine v_iconst C (v := 1) d_Md_outside_28 (by decide) ?_
          refine v_goto C 33 d_Md_outside_29 (by decide) ?_
          exact v_zret hQ C rfl rfl d_Md_outside_33 (by omega) (by omega) (Or.inl ⟨Or.inr (Or.inr (Or.inr (Or.inl c_17))), rfl, rfl⟩)
        · refine v_iload_n C (i := 1) d_Md_outside_20 rfl rfl ?_
          refine v_iload_n C (i := 2) d_Md_outside_21 rfl rfl ?_
          refine v_iadd C d_Md_outside_22 ?_
          refine v_bipush C (v := 16) d_Md_outside_23 (by decide) ?_
          refine v_icmp_le C 32 d_Md_outside_25 (by decide) (fun c_25 => ?_) (fun c_25 => ?_)
          · refine v_iconst C (v := 0) d_Md_outside_32 (by decide) ?_
            exact v_zret hQ C rfl rfl d_Md_outside_33 (by omega) (by omega) (Or.inr ⟨fun z => by
              rcases z with z | z | z | z | z
              · exact c_1 z
              · exact c_7 z
              · exact c_12 z
              · exact c_17 z
              · exact z c_25, rfl, rfl⟩)
          · refine v_iconst C (v := 1) d_Md_outside_28 (by decide) ?_
            refine v_goto C 33 d_Md_outside_29 (by decide) ?_
            exact v_zret hQ C rfl rfl d_Md_outside_33 (by omega) (by omega) (Or.inl ⟨Or.inr (Or.inr (Or.inr (Or.inr c_25))), rfl, rfl⟩)
def G2.addq (G : G2) (n : Nat) (k f c v : Int32) : G2 := (((((G.sT 4 (upd (G.T 4) n k)).sT 5 (upd (G.T 5) n f)).sT 6 (upd (G.T 6) n c)).sT 7 (upd (G.T 7) n v)).sT 8 (upd (G.T 8) n 0)).sI 3 (nI (n + 1))
set_option maxHeartbeats 4000000 in
set_option maxRecDepth 100000 in
theorem ct_Md_add {D : va_G} {l : Launch} {cI cZ cR cM : ClassId} {M : Mem} {ad : Nat → Nat} {G : G2} (h : R2 cI cZ M ad G) (n : Nat) (hn : G.I 3 = nI n) (hn120 : n ≤ 120) (k f c v : Int32) : Ct TT D cls (tyL cI cZ cR cM) l y_Md_add b_Md_add 5 (some .int) 0 0 0 0 [.ref (ad 0), .int k, .int f, .int c, .int v] M (fun rv M' => (n = 120 ∧ rv = some (.int (-2)) ∧ R2 cI cZ M' ad G) ∨ (n < 120 ∧ rv = some (.int (nI n)) ∧ R2 cI cZ M' ad (G.addq n k f c v))) := by
  refine ct_of "BlockTargetSessionModel" rfl (by decide) (Nat.le_of_ble_eq_true rfl) ?_
  intro Z hl hD hnm hQ C
  subst hl
  subst hD
  show V cls 5 (rmOf 0 0 0 0) Z 0 [(0, .ref (ad 0)), (1, .int k), (2, .int f), (3, .int c), (4, .int v)] [] M 0 0
  refine v_aload_n C (i := 0) d_Md_add_0 rfl rfl ?_
  refine v_get C (v := .int (G.I 3)) in_Md h.o cl_Md 12 (by decide) w_383 rfl rfl d_Md_add_1 ?_
  refine V.eqst (st' := [.int (nI n)]) (by rw [hn]) ?_
  refine v_bipush C (v := 120) d_Md_add_4 (by decide) ?_
  refine v_icmp_ne C 12 d_Md_add_6 (by decide) (fun c_6 => ?_) (fun c_6 => ?_)
  · have hlt : n < 120 := Nat.lt_of_le_of_ne hn120 (fun z => c_6 (by rw [z]; rfl))
    refine v_aload_n C (i := 0) d_Md_add_12 rfl rfl ?_
    refine v_get C (v := .ref (ad 4)) in_Md h.o cl_Md 6 (by decide) w_377 rfl rfl d_Md_add_13 ?_
    refine v_aload_n C (i := 0) d_Md_add_16 rfl rfl ?_
    refine v_get C (v := .int (G.I 3)) in_Md h.o cl_Md 12 (by decide) w_383 rfl rfl d_Md_add_17 ?_
    refine V.eqst (st' := [.int (nI n), .ref (ad 4)]) (by rw [hn]) ?_
    refine v_iload_n C (i := 1) d_Md_add_20 rfl rfl ?_
    refine v_iast C (N := 120) (f := G.T 4) 0 (h.a 4 (by decide) (by decide)) rfl (pk_in n 120 (by omega)) d_Md_add_21 ?_
    rw [show Int32.toNatClampNeg (nI n) = n from pk_cl _ (hx := rfl)]
    have h : R2 cI cZ (mset M (ad 4) (aI cI 120 (upd (G.T 4) n k))) ad (G.sT 4 (upd (G.T 4) n k)) := h.pa 4 (by decide) (by decide) (upd (G.T 4) n k)
    revert h
    generalize mset M (ad 4) (aI cI 120 (upd (G.T 4) n k)) = M
    intro h
    refine v_aload_n C (i := 0) d_Md_add_22 rfl rfl ?_
    refine v_get C (v := .ref (ad 5)) in_Md h.o cl_Md 7 (by decide) w_378 rfl rfl d_Md_add_23 ?_
    refine v_aload_n C (i := 0) d_Md_add_26 rfl rfl ?_
    refine v_get C (v := .int (G.I 3)) in_Md h.o cl_Md 12 (by decide) w_383 rfl rfl d_Md_add_27 ?_
    refine V.eqst (st' := [.int (nI n), .ref (ad 5)]) (by rw [hn]) ?_
    refine v_iload_n C (i := 2) d_Md_add_30 rfl rfl ?_
    refine v_iast C (N := 120) (f := G.T 5) 0 (h.a 5 (by decide) (by decide)) rfl (pk_in n 120 (by omega)) d_Md_add_31 ?_
    rw [show Int32.toNatClampNeg (nI n) = n from pk_cl _ (hx := rfl)]
    have h : R2 cI cZ (mset M (ad 5) (aI cI 120 (upd (G.T 5) n f))) ad ((G.sT 4 (upd (G.T 4) n k)).sT 5 (upd (G.T 5) n f)) := h.pa 5 (by decide) (by decide) (upd (G.T 5) n f)
    revert h
    generalize mset M (ad 5) (aI cI 120 (upd (G.T 5) n f)) = M
    intro h
    refine v_aload_n C (i := 0) d_Md_add_32 rfl rfl ?_
    refine v_get C (v := .ref (ad 6)) in_Md h.o cl_Md 8 (by decide) w_379 rfl rfl d_Md_add_33 ?_
    refine v_aload_n C (i := 0) d_Md_add_36 rfl rfl ?_
    refine v_get C (v := .int (G.I 3)) in_Md h.o cl_Md 12 (by decide) w_383 rfl rfl d_Md_add_37 ?_
    refine V.eqst (st' := [.int (nI n), .ref (ad 6)]) (by rw [hn]) ?_
    refine v_iload_n C (i := 3) d_Md_add_40 rfl rfl ?_
    refine v_iast C (N := 120) (f := G.T 6) 0 (h.a 6 (by decide) (by decide)) rfl (pk_in n 120 (by omega)) d_Md_add_41 ?_
    rw [show Int32.toNatClampNeg (nI n) = n from pk_cl _ (hx := rfl)]
    have h : R2 cI cZ (mset M (ad 6) (aI cI 120 (upd (G.T 6) n c))) ad (((G.sT 4 (upd (G.T 4) n k)).sT 5 (upd (G.T 5) n f)).sT 6 (upd (G.T 6) n c)) := h.pa 6 (by decide) (by decide) (upd (G.T 6) n c)
    revert h
    generalize mset M (ad 6) (aI cI 120 (upd (G.T 6) n c)) = M
    intro h
    refine v_aload_n C (i := 0) d_Md_add_42 rfl rfl ?_
    refine v_get C (v := .ref (ad 7)) in_Md h.o cl_Md 9 (by decide) w_380 rfl rfl d_Md_add_43 ?_
    refine v_aload_n C (i := 0) d_Md_add_46 rfl rfl ?_
    refine v_get C (v := .int (G.I 3)) in_Md h.o cl_Md 12 (by decide) w_383 rfl rfl d_Md_add_47 ?_
    refine V.eqst (st' := [.int (nI n), .ref (ad 7)]) (by rw [hn]) ?_
    refine v_iload C (i := 4) d_Md_add_50 rfl ?_
    refine v_iast C (N := 120) (f := G.T 7) 0 (h.a 7 (by decide) (by decide)) rfl (pk_in n 120 (by omega)) d_Md_add_52 ?_
    rw [show Int32.toNatClampNeg (nI n) = n from pk_cl _ (hx := rfl)]
    have h : R2 cI cZ (mset M (ad 7) (aI cI 120 (upd (G.T 7) n v))) ad ((((G.sT 4 (upd (G.T 4) n k)).sT 5 (upd (G.T 5) n f)).sT 6 (upd (G.T 6) n c)).sT 7 (upd (G.T 7) n v)) := h.pa 7 (by decide) (by decide) (upd (G.T 7) n v)
    revert h
    generalize mset M (ad 7) (aI cI 120 (upd (G.T 7) n v)) = M
    intro h
    refine v_aload_n C (i := 0) d_Md_add_53 rfl rfl ?_
    refine v_get C (v := .ref (ad 8)) in_Md h.o cl_Md 10 (by decide) w_381 rfl rfl d_Md_add_54 ?_
    refine v_aload_n C (i := 0) d_Md_add_57 rfl rfl ?_
    refine v_get C (v := .int (G.I 3)) in_Md h.o cl_Md 12 (by decide) w_383 rfl rfl d_Md_add_58 ?_
    refine V.eqst (st' := [.int (nI n), .ref (ad 8)]) (by rw [hn]) ?_
    refine v_iconst C (v := 0) d_Md_add_61 (by decide) ?_
    refine v_iast C (N := 120) (f := G.T 8) 0 (h.a 8 (by decide) (by decide)) rfl (pk_in n 120 (by omega)) d_Md_add_62 ?_
    rw [show Int32.toNatClampNeg (nI n) = n from pk_cl _ (hx := rfl)]
    have h : R2 cI cZ (mset M (ad 8) (aI cI 120 (upd (G.T 8) n 0))) ad (((((G.sT 4 (upd (G.T 4) n k)).sT 5 (upd (G.T 5) n f)).sT 6 (upd (G.T 6) n c)).sT 7 (upd (G.T 7) n v)).sT 8 (upd (G.T 8) n 0)) := h.pa 8 (by decide) (by decide) (upd (G.T 8) n 0)
    revert h
    generalize mset M (ad 8) (aI cI 120 (upd (G.T 8) n 0)) = M
    intro h
    refine v_aload_n C (i := 0) d_Md_add_63 rfl rfl ?_
    refine v_dup C d_Md_add_64 rfl ?_
    refine v_get C (v := .int (G.I 3)) in_Md h.o cl_Md 12 (by decide) w_383 rfl rfl d_Md_add_65 ?_
    refine V.eqst (st' := [.int (nI n), .ref (ad 0)]) (by rw [hn]) ?_
    refine v_iconst C (v := 1) d_Md_add_68 (by decide) ?_
    refine v_iadd C d_Md_add_69 ?_
    refine V.eqst (st' := [.int (nI (n + 1)), .ref (ad 0)]) (by rw [nI_1]) ?_
    refine v_put C in_Md t_Md to_Md nm_Md h.o cl_Md 12 (by decide) (fs' := [.int (G.I 0), .int (G.I 1), .ref (ad 1), .ref (ad 2), .ref (ad 3), .int (G.I 2), .ref (ad 4), .ref (ad 5), .ref (ad 6), .ref (ad 7), .ref (ad 8), .ref (ad 9), .int (nI (n + 1)), .ref (ad 10), .ref (ad 11), .ref (ad 12), .ref (ad 13), .ref (ad 14), .ref (ad 15), .ref (ad 16), .int (G.I 4), .int (G.I 5), .int (G.I 6), .int (G.I 7), .int (G.I 8)]) w_383 rfl rfl rfl rfl (Nat.le_of_ble_eq_true rfl) rfl d_Md_add_70 ?_
    have h : R2 cI cZ (mset M (ad 0) (ob 5 [.int (G.I 0), .int (G.I 1), .ref (ad 1), .ref (ad 2), .ref (ad 3), .int (G.I 2), .ref (ad 4), .ref (ad 5), .ref (ad 6), .ref (ad 7), .ref (ad 8), .ref (ad 9), .int (nI (n + 1)), .ref (ad 10), .ref (ad 11), .ref (ad 12), .ref (ad 13), .ref (ad 14), .ref (ad 15), .ref (ad 16), .int (G.I 4), .int (G.I 5), .int (G.I 6), .int (G.I 7), .int (G.I 8)])) ad ((((((G.sT 4 (upd (G.T 4) n k)).sT 5 (upd (G.T 5) n f)).sT 6 (upd (G.T 6) n c)).sT 7 (upd (G.T 7) n v)).sT 8 (upd (G.T 8) n 0)).sI 3 (nI (n + 1))) := h.po 3 (nI (n + 1))
    revert h
    generalize mset M (ad 0) (ob 5 [.int (G.I 0), .int (G.I 1), .ref (ad 1), .ref (ad 2), .ref (ad 3), .int (G.I 2), .ref (ad 4), .ref (ad 5), .ref (ad 6), .ref (ad 7), .ref (ad 8), .ref (ad 9), .int (nI (n + 1)), .ref (ad 10), .ref (ad 11), .ref (ad 12), .ref (ad 13), .ref (ad 14), .ref (ad 15), .ref (ad 16), .int (G.I 4), .int (G.I 5), .int (G.I 6), .int (G.I 7), .int (G.I 8)]) = M
    intro h
    refine v_aload_n C (i := 0) d_Md_add_73 rfl rfl ?_
    refine v_get C (v := .int (nI (n + 1))) in_Md h.o cl_Md 12 (by decide) w_383 rfl rfl d_Md_add_74 ?_
    refine v_iconst C (v := 1) d_Md_add_77 (by decide) ?_
    refine v_isub C d_Md_add_78 ?_
    refine V.eqst (st' := [.int (nI n)]) (by rw [nI_pred]) ?_
    exact v_iret hQ C rfl d_Md_add_79 (by omega) (by omega) (Or.inr ⟨hlt, rfl, h⟩)
  · have he : n = 120 := (nI_eq (b := 120) (by omega) (by decide)).mp c_6
    refine v_bipush C (v := (-2)) d_Md_add_9 (by decide) ?_
    exact v_iret hQ C rfl d_Md_add_11 (by omega) (by omega) (Or.inl ⟨he, rfl, h⟩)
set_option maxHeartbeats 4000000 in
set_option maxRecDepth 100000 in
theorem ct_Md_write {D : va_G} {l : Launch} {cI cZ cR cM : ClassId} {M : Mem} {ad : Nat → Nat} {G : G2} (h : R2 cI cZ M ad G) (n : Nat) (hn : G.I 3 = nI n) (hn120 : n ≤ 120) (x c v : Int32) : Ct TT D cls (tyL cI cZ cR cM) l y_Md_write b_Md_write 4 (some .int) 1 24 0 0 [.ref (ad 0), .int x, .int c, .int v] M (fun rv M' => (isO x c ∧ rv = some (.int (-1)) ∧ R2 cI cZ M' ad G) ∨ (¬ isO x c ∧ ((n = 120 ∧ rv = some (.int (-2)) ∧ R2 cI cZ M' ad G) ∨ (n < 120 ∧ rv = some (.int (nI n)) ∧ R2 cI cZ M' ad (G.addq n 0 x c v))))) := by
  refine ct_of "BlockTargetSessionModel" rfl (by decide) (Nat.le_of_ble_eq_true rfl) ?_
  intro Z hl hD hnm hQ C
  subst hl
  subst hD
  show V cls 4 (rmOf 1 24 0 0) Z 0 [(0, .ref (ad 0)), (1, .int x), (2, .int c), (3, .int v)] [] M 0 0
  refine v_aload_n C (i := 0) d_Md_write_0 rfl rfl ?_
  refine v_iload_n C (i := 1) d_Md_write_1 rfl rfl ?_
  refine v_iload_n C (i := 2) d_Md_write_2 rfl rfl ?_
  refine v_callV C (As := [.int x, .int c]) (rest := []) h.o cl_Md rfl w_454 wp_16 (ct_Md_outside h x c) (Nat.le_of_ble_eq_true rfl) (Nat.le_of_ble_eq_true rfl) w_455 w_6 hy_Md_outside w_452 rfl (Nat.le_of_ble_eq_true rfl) ⟨by decide, by decide⟩ d_Md_write_3 (fun rv M hp => ?_)
  rcases hp with ⟨ho, rfl, rfl⟩ | ⟨ho, rfl, rfl⟩
  · refine V.eqst (st' := [.int 1]) rfl (V.cs (k' := 0) (n' := 0) rfl rfl ?_)
    refine v_if_eq C 13 d_Md_write_6 (by decide) (fun c_6 => absurd c_6 (by decide)) (fun c_6 => ?_)
    refine v_iconst C (v := (-1)) d_Md_write_9 (by decide) ?_
    refine v_goto C 21 d_Md_write_10 (by decide) ?_
    exact v_iret hQ C rfl d_Md_write_21 (by omega) (by omega) (Or.inl ⟨ho, rfl, h⟩)
  · refine V.eqst (st' := [.int 0]) rfl (V.cs (k' := 0) (n' := 0) rfl rfl ?_)
    refine v_if_eq C 13 d_Md_write_6 (by decide) (fun c_6 => ?_) (fun c_6 => absurd (rfl) c_6)
    refine v_aload_n C (i := 0) d_Md_write_13 rfl rfl ?_
    refine v_iconst C (v := 0) d_Md_write_14 (by decide) ?_
    refine v_iload_n C (i := 1) d_Md_write_15 rfl rfl ?_
    refine v_iload_n C (i := 2) d_Md_write_16 rfl rfl ?_
    refine v_iload_n C (i := 3) d_Md_write_17 rfl rfl ?_
    refine v_callV C (As := [.int 0, .int x, .int c, .int v]) (rest := []) h.o cl_Md rfl w_458 wp_17 (ct_Md_add h n hn hn120 0 x c v) (Nat.le_of_ble_eq_true rfl) (Nat.le_of_ble_eq_true rfl) w_459 w_6 hy_Md_add w_456 rfl (Nat.le_of_ble_eq_true rfl) ⟨by decide, by decide⟩ d_Md_write_18 (fun rv M hp => ?_)
    obtain ⟨z, rfl, hz⟩ : ∃ z : Int32, rv = some (.int z) ∧ ((n = 120 ∧ z = -2 ∧ R2 cI cZ M ad G) ∨ (n < 120 ∧ z = nI n ∧ R2 cI cZ M ad (G.addq n 0 x c v))) := by
      rcases hp with ⟨a, e, q⟩ | ⟨a, e, q⟩
      · exact ⟨_, e, Or.inl ⟨a, rfl, q⟩⟩
      · exact ⟨_, e, Or.inr ⟨a, rfl, q⟩⟩
    refine V.eqst (st' := [.int z]) rfl (V.cs (k' := 0) (n' := 0) rfl rfl ?_)
    exact v_iret hQ C rfl d_Md_write_21 (by omega) (by omega) (Or.inr ⟨ho, by
      rcases hz with ⟨a, e, q⟩ | ⟨a, e, q⟩
      · exact Or.inl ⟨a, by rw [e], q⟩
      · exact Or.inr ⟨a, by rw [e], q⟩⟩)
set_option maxHeartbeats 4000000 in
set_option maxRecDepth 100000 in
theorem ct_Md_read {D : va_G} {l : Launch} {cI cZ cR cM : ClassId} {M : Mem} {ad : Nat → Nat} {G : G2} (h : R2 cI cZ M ad G) (n : Nat) (hn : G.I 3 = nI n) (hn120 : n ≤ 120) (x c : Int32) : Ct TT D cls (tyL cI cZ cR cM) l y_Md_read b_Md_read 3 (some .int) 1 24 0 0 [.ref (ad 0), .int x, .int c] M (fun rv M' => (isO x c ∧ rv = some (.int (-1)) ∧ R2 cI cZ M' ad G) ∨ (¬ isO x c ∧ ((n = 120 ∧ rv = some (.int (-2)) ∧ R2 cI cZ M' ad G) ∨ (n < 120 ∧ rv = some (.int (nI n)) ∧ R2 cI cZ M' ad (G.addq n 1 x c 0))))) := by
  refine ct_of "BlockTargetSessionModel" rfl (by decide) (Nat.le_of_ble_eq_true rfl) ?_
  intro Z hl hD hnm hQ C
  subst hl
  subst hD
  show V cls 3 (rmOf 1 24 0 0) Z 0 [(0, .ref (ad 0)), (1, .int x), (2, .int c)] [] M 0 0
  refine v_aload_n C (i := 0) d_Md_read_0 rfl rfl ?_
  refine v_iload_n C (i := 1) d_Md_read_1 rfl rfl ?_
  refine v_iload_n C (i := 2) d_Md_read_2 rfl rfl ?_
  refine v_callV C (As := [.int x, .int c]) (rest := []) h.o cl_Md rfl w_454 wp_16 (ct_Md_outside h x c) (Nat.le_of_ble_eq_true rfl) (Nat.le_of_ble_eq_true rfl) w_455 w_6 hy_Md_outside w_452 rfl (Nat.le_of_ble_eq_true rfl) ⟨by decide, by decide⟩ d_Md_read_3 (fun rv M hp => ?_)
  rcases hp with ⟨ho, rfl, rfl⟩ | ⟨ho, rfl, rfl⟩
  · refine V.eqst (st' := [.int 1]) rfl (V.cs (k' := 0) (n' := 0) rfl rfl ?_)
    refine v_if_eq C 13 d_Md_read_6 (by decide) (fun c_6 => absurd c_6 (by decide)) (fun c_6 => ?_)
    refine v_iconst C (v := (-1)) d_Md_read_9 (by decide) ?_
    refine v_goto C 21 d_Md_read_10 (by decide) ?_
    exact v_iret hQ C rfl d_Md_read_21 (by omega) (by omega) (Or.inl ⟨ho, rfl, h⟩)
  · refine V.eqst (st' := [.int 0]) rfl (V.cs (k' := 0) (n' := 0) rfl rfl ?_)
    refine v_if_eq C 13 d_Md_read_6 (by decide) (fun c_6 => ?_) (fun c_6 => absurd (rfl) c_6)
    refine v_aload_n C (i := 0) d_Md_read_13 rfl rfl ?_
    refine v_iconst C (v := 1) d_Md_read_14 (by decide) ?_
    refine v_iload_n C (i := 1) d_Md_read_15 rfl rfl ?_
    refine v_iload_n C (i := 2) d_Md_read_16 rfl rfl ?_
    refine v_iconst C (v := 0) d_Md_read_17 (by decide) ?_
    refine v_callV C (As := [.int 1, .int x, .int c, .int 0]) (rest := []) h.o cl_Md rfl w_458 wp_17 (ct_Md_add h n hn hn120 1 x c 0) (Nat.le_of_ble_eq_true rfl) (Nat.le_of_ble_eq_true rfl) w_459 w_6 hy_Md_add w_456 rfl (Nat.le_of_ble_eq_true rfl) ⟨by decide, by decide⟩ d_Md_read_18 (fun rv M hp => ?_)
    obtain ⟨z, rfl, hz⟩ : ∃ z : Int32, rv = some (.int z) ∧ ((n = 120 ∧ z = -2 ∧ R2 cI cZ M ad G) ∨ (n < 120 ∧ z = nI n ∧ R2 cI cZ M ad (G.addq n 1 x c 0))) := by
      rcases hp with ⟨a, e, q⟩ | ⟨a, e, q⟩
      · exact ⟨_, e, Or.inl ⟨a, rfl, q⟩⟩
      · exact ⟨_, e, Or.inr ⟨a, rfl, q⟩⟩
    refine V.eqst (st' := [.int z]) rfl (V.cs (k' := 0) (n' := 0) rfl rfl ?_)
    exact v_iret hQ C rfl d_Md_read_21 (by omega) (by omega) (Or.inr ⟨ho, by
      rcases hz with ⟨a, e, q⟩ | ⟨a, e, q⟩
      · exact Or.inl ⟨a, by rw [e], q⟩
      · exact Or.inr ⟨a, by rw [e], q⟩⟩)
set_option maxHeartbeats 4000000 in
set_option maxRecDepth 100000 in
theorem ct_Md_sync {D : va_G} {l : Launch} {cI cZ cR cM : ClassId} {M : Mem} {ad : Nat → Nat} {G : G2} (h : R2 cI cZ M ad G) (n : Nat) (hn : G.I 3 = nI n) (hn120 : n ≤ 120) : Ct TT D cls (tyL cI cZ cR cM) l y_Md_sync b_Md_sync 1 (some .int) 1 24 0 0 [.ref (ad 0)] M (fun rv M' => (n = 120 ∧ rv = some (.int (-2)) ∧ R2 cI cZ M' ad G) ∨ (n < 120 ∧ rv = some (.int (nI n)) ∧ R2 cI cZ M' ad (G.addq n 2 0 0 0))) := by
  refine ct_of "BlockTargetSessionModel" rfl (by decide) (Nat.le_of_ble_eq_true rfl) ?_
  intro Z hl hD hnm hQ C
  subst hl
  subst hD
  show V cls 1 (rmOf 1 24 0 0) Z 0 [(0, .ref (ad 0))] [] M 0 0
  refine v_aload_n C (i := 0) d_Md_sync_0 rfl rfl ?_
  refine v_iconst C (v := 2) d_Md_sync_1 (by decide) ?_
  refine v_iconst C (v := 0) d_Md_sync_2 (by decide) ?_
  refine v_iconst C (v := 0) d_Md_sync_3 (by decide) ?_
  refine v_iconst C (v := 0) d_Md_sync_4 (by decide) ?_
  refine v_callV C (As := [.int 2, .int 0, .int 0, .int 0]) (rest := []) h.o cl_Md rfl w_458 wp_17 (ct_Md_add h n hn hn120 2 0 0 0) (Nat.le_of_ble_eq_true rfl) (Nat.le_of_ble_eq_true rfl) w_459 w_6 hy_Md_add w_456 rfl (Nat.le_of_ble_eq_true rfl) ⟨by decide, by decide⟩ d_Md_sync_5 (fun rv M hp => ?_)
  obtain ⟨z, rfl, hz⟩ : ∃ z : Int32, rv = some (.int z) ∧ ((n = 120 ∧ z = -2 ∧ R2 cI cZ M ad G) ∨ (n < 120 ∧ z = nI n ∧ R2 cI cZ M ad (G.addq n 2 0 0 0))) := by
    rcases hp with ⟨a, e, q⟩ | ⟨a, e, q⟩
    · exact ⟨_, e, Or.inl ⟨a, rfl, q⟩⟩
    · exact ⟨_, e, Or.inr ⟨a, rfl, q⟩⟩
  refine V.eqst (st' := [.int z]) rfl (V.cs (k' := 0) (n' := 0) rfl rfl ?_)
  exact v_iret hQ C rfl d_Md_sync_8 (by omega) (by omega) (by
    rcases hz with ⟨a, e, q⟩ | ⟨a, e, q⟩
    · exact Or.inl ⟨a, by rw [e], q⟩
    · exact Or.inr ⟨a, by rw [e], q⟩)
theorem cnt_pos {f : Nat → Int32} {b : Int32} : ∀ {n : Nat}, cnt f b n ≠ 0 → ∃ p, p < n ∧ f p = b ∧ ∀ q, q < p → f q ≠ b
  | 0, h => absurd rfl h
  | n + 1, h => by
    by_cases c : cnt f b n = 0
    · have hn : f n = b := Classical.byContradiction fun z => h (by rw [cnt, c, if_neg z])
      refine ⟨n, by omega, hn, fun q hq e => ?_⟩
      have : ∀ m, m ≤ n → cnt f b m = 0 := by
        intro m hm
        have mono : ∀ a d, cnt f b a ≤ cnt f b (a + d) := by
          intro a d
          induction d with
          | zero => exact Nat.le_refl _
          | succ d ih => exact Nat.le_trans ih (by show cnt f b (a + d) ≤ cnt f b (a + d) + _; omega)
        have := mono m (n - m)
        rw [show m + (n - m) = n from by omega, c] at this
        omega
      have h1 := this (q + 1) (by omega)
      rw [cnt, if_pos e] at h1
      omega
    · obtain ⟨p, hp, h1, h2⟩ := cnt_pos c
      exact ⟨p, by omega, h1, h2⟩
theorem cnt_zero {f : Nat → Int32} {b : Int32} {n : Nat} (h : cnt f b n = 0) : ∀ q, q < n → f q ≠ b := by
  induction n with
  | zero => intro q hq; omega
  | succ n ih =>
    intro q hq e
    rw [cnt] at h
    by_cases c : q = n
    · subst c; rw [if_pos e] at h; omega
    · exact ih (by omega) q (by omega) e
def G2.sendG (G : G2) (p su : Nat) : G2 := ((G.sT 8 (upd (G.T 8) p 1)).sI 5 (G.I 5 + 1)).pst 0 su (nI p) 0 0 0 0
set_option maxHeartbeats 4000000 in
set_option maxRecDepth 100000 in
theorem ct_Md_send {D : va_G} {l : Launch} {cI cZ cR cM : ClassId} {M : Mem} {ad : Nat → Nat} {G : G2} (h : R2 cI cZ M ad G) (n : Nat) (hn : G.I 3 = nI n) (hn120 : n ≤ 120) (su : Nat) (hsu : su < 60) (hs0 : G.T 16 0 = nI su) : Ct TT D cls (tyL cI cZ cR cM) l y_Md_send b_Md_send 2 (some .int) 1 26 0 0 [.ref (ad 0)] M (fun rv M' => (G.I 4 = 0 ∧ rv = some (.int (-4)) ∧ R2 cI cZ M' ad G) ∨ (¬ G.I 4 = 0 ∧ (((∀ q, q < n → G.T 8 q ≠ 0) ∧ rv = some (.int (-3)) ∧ R2 cI cZ M' ad G) ∨ ∃ p, p < n ∧ G.T 8 p = 0 ∧ (∀ q, q < p → G.T 8 q ≠ 0) ∧ ((¬ G.I 5 < G.I 7 ∧ rv = some (.int (-2)) ∧ R2 cI cZ M' ad G) ∨ (G.I 5 < G.I 7 ∧ rv = some (.int (nI p)) ∧ R2 cI cZ M' ad (G.sendG p su)))))) := by
  refine ct_of "BlockTargetSessionModel" rfl (by decide) (Nat.le_of_ble_eq_true rfl) ?_
  intro Z hl hD hnm hQ C
  subst hl
  subst hD
  show V cls 2 (rmOf 1 26 0 0) Z 0 [(0, .ref (ad 0))] [] M 0 0
  refine v_aload_n C (i := 0) d_Md_send_0 rfl rfl ?_
  refine v_get C (v := .int (G.I 4)) in_Md h.o cl_Md 20 (by decide) w_391 rfl rfl d_Md_send_1 ?_
  refine v_if_ne C 10 d_Md_send_4 (by decide) (fun c_4 => ?_) (fun c_4 => ?_)
  · refine v_aload_n C (i := 0) d_Md_send_10 rfl rfl ?_
    refine v_iconst C (v := 0) d_Md_send_11 (by decide) ?_
    refine v_callV C (As := [.int 0]) (rest := []) h.o cl_Md rfl w_482 wp_19 (ct_Md_number h n hn hn120 0) (Nat.le_of_ble_eq_true rfl) (Nat.le_of_ble_eq_true rfl) w_483 w_6 hy_Md_number w_480 rfl (Nat.le_of_ble_eq_true rfl) ⟨by decide, by decide⟩ d_Md_send_12 (fun rv M hp => ?_)
    obtain ⟨rfl, rfl⟩ := hp
    refine V.eqst (st' := [.int (nI (cnt (G.T 8) 0 n))]) rfl (V.cs (k' := 0) (n' := 0) rfl rfl ?_)
    refine v_if_ne C 21 d_Md_send_15 (by decide) (fun c_15 => ?_) (fun c_15 => ?_)
    · obtain ⟨p, hpn, hp0, hpm⟩ := cnt_pos (f := G.T 8) (b := 0) (n := n) (fun z => c_15 (by rw [z]; exact nI_0))
      refine v_iconst C (v := 0) d_Md_send_21 (by decide) ?_
      refine v_istore_n C (i := 1) (lv' := [(1, .int 0), (0, .ref (ad 0))]) d_Md_send_22 rfl (by decide) rfl ?_
      have L : ∀ (fu i : Nat), p - i < fu → i ≤ p → V cls 2 (rmOf 1 26 0 0) Z 23 [(1, .int (nI i)), (0, .ref (ad 0))] [] M 0 0 := by
        intro fu
        induction fu with
        | zero => intro i hf; omega
        | succ fu ih =>
          intro i hf hi
          refine v_iload_n C (i := 1) d_Md_send_23 rfl rfl ?_
          refine v_bipush C (v := 119) d_Md_send_24 (by decide) ?_
          refine v_icmp_ge C 44 d_Md_send_26 (by decide) (fun c_26 => ?_) (fun c_26 => ?_)
          · have hi2 : i = p := Nat.le_antisymm hi (by have := (nI_leI (a := 119) (by omega) (by omega)).mp c_26; omega)
            subst hi2
            refine v_aload_n C (i := 0) d_Md_send_44 rfl rfl ?_
            refine v_get C (v := .int (G.I 5)) in_Md h.o cl_Md 21 (by decide) w_392 rfl rfl d_Md_send_45 ?_
            refine v_aload_n C (i := 0) d_Md_send_48 rfl rfl ?_
            refine v_get C (v := .int (G.I 7)) in_Md h.o cl_Md 23 (by decide) w_394 rfl rfl d_Md_send_49 ?_
            refine v_icmp_lt C 58 d_Md_send_52 (by decide) (fun c_52 => ?_) (fun c_52 => ?_)
            · refine v_aload_n C (i := 0) d_Md_send_58 rfl rfl ?_
              refine v_get C (v := .ref (ad 8)) in_Md h.o cl_Md 10 (by decide) w_381 rfl rfl d_Md_send_59 ?_
              refine v_iload_n C (i := 1) d_Md_send_62 rfl rfl ?_
              refine v_iconst C (v := 1) d_Md_send_63 (by decide) ?_
              refine v_iast C (N := 120) (f := G.T 8) 0 (h.a 8 (by decide) (by decide)) rfl (pk_in i 120 (by omega)) d_Md_send_64 ?_
              rw [show Int32.toNatClampNeg (nI i) = i from pk_cl _ (hx := rfl)]
              have h : R2 cI cZ (mset M (ad 8) (aI cI 120 (upd (G.T 8) i 1))) ad (G.sT 8 (upd (G.T 8) i 1)) := h.pa 8 (by decide) (by decide) (upd (G.T 8) i 1)
              revert h
              generalize mset M (ad 8) (aI cI 120 (upd (G.T 8) i 1)) = M
              intro h
              refine v_aload_n C (i := 0) d_Md_send_65 rfl rfl ?_
              refine v_dup C d_Md_send_66 rfl ?_
              refine v_get C (v := .int (G.I 5)) in_Md h.o cl_Md 21 (by decide) w_392 rfl rfl d_Md_send_67 ?_
              refine v_iconst C (v := 1) d_Md_send_70 (by decide) ?_
              refine v_iadd C d_Md_send_71 ?_
              refine v_put C in_Md t_Md to_Md nm_Md h.o cl_Md 21 (by decide) (fs' := [.int (G.I 0), .int (G.I 1), .ref (ad 1), .ref (ad 2), .ref (ad 3), .int (G.I 2), .ref (ad 4), .ref (ad 5), .ref (ad 6), .ref (ad 7), .ref (ad 8), .ref (ad 9), .int (G.I 3), .ref (ad 10), .ref (ad 11), .ref (ad 12), .ref (ad 13), .ref (ad 14), .ref (ad 15), .ref (ad 16), .int (G.I 4), .int ((G.I 5) + 1), .int (G.I 6), .int (G.I 7), .int (G.I 8)]) w_392 rfl rfl rfl rfl (Nat.le_of_ble_eq_true rfl) rfl d_Md_send_72 ?_
              have h : R2 cI cZ (mset M (ad 0) (ob 5 [.int (G.I 0), .int (G.I 1), .ref (ad 1), .ref (ad 2), .ref (ad 3), .int (G.I 2), .ref (ad 4), .ref (ad 5), .ref (ad 6), .ref (ad 7), .ref (ad 8), .ref (ad 9), .int (G.I 3), .ref (ad 10), .ref (ad 11), .ref (ad 12), .ref (ad 13), .ref (ad 14), .ref (ad 15), .ref (ad 16), .int (G.I 4), .int ((G.I 5) + 1), .int (G.I 6), .int (G.I 7), .int (G.I 8)])) ad ((G.sT 8 (upd (G.T 8) i 1)).sI 5 ((G.I 5) + 1)) := h.po 5 ((G.I 5) + 1)
              revert h
              generalize mset M (ad 0) (ob 5 [.int (G.I 0), .int (G.I 1), .ref (ad 1), .ref (ad 2), .ref (ad 3), .int (G.I 2), .ref (ad 4), .ref (ad 5), .ref (ad 6), .ref (ad 7), .ref (ad 8), .ref (ad 9), .int (G.I 3), .ref (ad 10), .ref (ad 11), .ref (ad 12), .ref (ad 13), .ref (ad 14), .ref (ad 15), .ref (ad 16), .int (G.I 4), .int ((G.I 5) + 1), .int (G.I 6), .int (G.I 7), .int (G.I 8)]) = M
              intro h
              refine v_aload_n C (i := 0) d_Md_send_75 rfl rfl ?_
              refine v_iconst C (v := 0) d_Md_send_76 (by decide) ?_
              refine v_iload_n C (i := 1) d_Md_send_77 rfl rfl ?_
              refine v_iconst C (v := 0) d_Md_send_78 (by decide) ?_
              refine v_iconst C (v := 0) d_Md_send_79 (by decide) ?_
              refine v_iconst C (v := 0) d_Md_send_80 (by decide) ?_
              refine v_callV C (As := [.int 0, .int (nI i), .int 0, .int 0, .int 0]) (rest := []) h.o cl_Md rfl w_486 wp_20 (ct_Md_post0 h su (by omega) hs0 (nI i) 0 0 0) (Nat.le_of_ble_eq_true rfl) (Nat.le_of_ble_eq_true rfl) w_487 w_6 hy_Md_post w_484 rfl (Nat.le_of_ble_eq_true rfl) ⟨by decide, by decide⟩ d_Md_send_81 (fun rv M hp => ?_)
              obtain ⟨rfl, hw⟩ := hp
              refine V.eqst (st' := []) rfl (V.cs (k' := 0) (n' := 0) rfl rfl ?_)
              refine v_iload_n C (i := 1) d_Md_send_84 rfl rfl ?_
              exact v_iret hQ C rfl d_Md_send_85 (by omega) (by omega) (Or.inr ⟨c_4, Or.inr ⟨i, hpn, hp0, hpm, Or.inr ⟨c_52, rfl, hw⟩⟩⟩)
            · refine v_bipush C (v := (-2)) d_Md_send_55 (by decide) ?_
              exact v_iret hQ C rfl d_Md_send_57 (by omega) (by omega) (Or.inr ⟨c_4, Or.inr ⟨i, hpn, hp0, hpm, Or.inl ⟨c_52, rfl, h⟩⟩⟩)
          · have hi3 : i < 119 := Nat.lt_of_not_le (fun z => c_26 ((nI_leI (a := 119) (by omega) (by omega)).mpr z))
            refine v_aload_n C (i := 0) d_Md_send_29 rfl rfl ?_
            refine v_get C (v := .ref (ad 8)) in_Md h.o cl_Md 10 (by decide) w_381 rfl rfl d_Md_send_30 ?_
            refine v_iload_n C (i := 1) d_Md_send_33 rfl rfl ?_
            refine v_iald C (N := 120) (f := G.T 8) 0 (h.a 8 (by decide) (by decide)) rfl (pk_in i 120 (by omega)) d_Md_send_34 ?_
            refine V.eqst (st' := [.int (G.T 8 i)]) (by rw [show Int32.toNatClampNeg (nI i) = i from pk_cl _ (hx := rfl)]) ?_
            refine v_if_eq C 44 d_Md_send_35 (by decide) (fun c_35 => ?_) (fun c_35 => ?_)
            · have hi2 : i = p := Classical.byContradiction fun z => hpm i (by omega) c_35
              subst hi2
              refine v_aload_n C (i := 0) d_Md_send_44 rfl rfl ?_
              refine v_get C (v := .int (G.I 5)) in_Md h.o cl_Md 21 (by decide) w_392 rfl rfl d_Md_send_45 ?_
              refine v_aload_n C (i := 0) d_Md_send_48 rfl rfl ?_
              refine v_get C (v := .int (G.I 7)) in_Md h.o cl_Md 23 (by decide) w_394 rfl rfl d_Md_send_49 ?_
              refine v_icmp_lt C 58 d_Md_send_52 (by decide) (fun c_52 => ?_) (fun c_52 => ?_)
              · refine v_aload_n C (i := 0) d_Md_send_58 rfl rfl ?_
                refine v_get C (v := .ref (ad 8)) in_Md h.o cl_Md 10 (by decide) w_381 rfl rfl d_Md_send_59 ?_
                refine v_iload_n C (i := 1) d_Md_send_62 rfl rfl ?_
                refine v_iconst C (v := 1) d_Md_send_63 (by decide) ?_
                refine v_iast C (N := 120) (f := G.T 8) 0 (h.a 8 (by decide) (by decide)) rfl (pk_in i 120 (by omega)) d_Md_send_64 ?_
                rw [show Int32.toNatClampNeg (nI i) = i from pk_cl _ (hx := rfl)]
                have h : R2 cI cZ (mset M (ad 8) (aI cI 120 (upd (G.T 8) i 1))) ad (G.sT 8 (upd (G.T 8) i 1)) := h.pa 8 (by decide) (by decide) (upd (G.T 8) i 1)
                revert h
                generalize mset M (ad 8) (aI cI 120 (upd (G.T 8) i 1)) = M
                intro h
                refine v_aload_n C (i := 0) d_Md_send_65 rfl rfl ?_
                refine v_dup C d_Md_send_66 rfl ?_
                refine v_get C (v := .int (G.I 5)) in_Md h.o cl_Md 21 (by decide) w_392 rfl rfl d_Md_send_67 ?_
                refine v_iconst C (v := 1) d_Md_send_70 (by decide) ?_
                refine v_iadd C d_Md_send_71 ?_
                refine v_put C in_Md t_Md to_Md nm_Md h.o cl_Md 21 (by decide) (fs' := [.int (G.I 0), .int (G.I 1), .ref (ad 1), .ref (ad 2), .ref (ad 3), .int (G.I 2), .ref (ad 4), .ref (ad 5), .ref (ad 6), .ref (ad 7), .ref (ad 8), .ref (ad 9), .int (G.I 3), .ref (ad 10), .ref (ad 11), .ref (ad 12), .ref (ad 13), .ref (ad 14), .ref (ad 15), .ref (ad 16), .int (G.I 4), .int ((G.I 5) + 1), .int (G.I 6), .int (G.I 7), .int (G.I 8)]) w_392 rfl rfl rfl rfl (Nat.le_of_ble_eq_true rfl) rfl d_Md_send_72 ?_
                have h : R2 cI cZ (mset M (ad 0) (ob 5 [.int (G.I 0), .int (G.I 1), .ref (ad 1), .ref (ad 2), .ref (ad 3), .int (G.I 2), .ref (ad 4), .ref (ad 5), .ref (ad 6), .ref (ad 7), .ref (ad 8), .ref (ad 9), .int (G.I 3), .ref (ad 10), .ref (ad 11), .ref (ad 12), .ref (ad 13), .ref (ad 14), .ref (ad 15), .ref (ad 16), .int (G.I 4), .int ((G.I 5) + 1), .int (G.I 6), .int (G.I 7), .int (G.I 8)])) ad ((G.sT 8 (upd (G.T 8) i 1)).sI 5 ((G.I 5) + 1)) := h.po 5 ((G.I 5) + 1)
                revert h
                generalize mset M (ad 0) (ob 5 [.int (G.I 0), .int (G.I 1), .ref (ad 1), .ref (ad 2), .ref (ad 3), .int (G.I 2), .ref (ad 4), .ref (ad 5), .ref (ad 6), .ref (ad 7), .ref (ad 8), .ref (ad 9), .int (G.I 3), .ref (ad 10), .ref (ad 11), .ref (ad 12), .ref (ad 13), .ref (ad 14), .ref (ad 15), .ref (ad 16), .int (G.I 4), .int ((G.I 5) + 1), .int (G.I 6), .int (G.I 7), .int (G.I 8)]) = M
                intro h
                refine v_aload_n C (i := 0) d_Md_send_75 rfl rfl ?_
                refine v_iconst C (v := 0) d_Md_send_76 (by decide) ?_
                refine v_iload_n C (i := 1) d_Md_send_77 rfl rfl ?_
                refine v_iconst C (v := 0) d_Md_send_78 (by decide) ?_
                refine v_iconst C (v := 0) d_Md_send_79 (by decide) ?_
                refine v_iconst C (v := 0) d_Md_send_80 (by decide) ?_
                refine v_callV C (As := [.int 0, .int (nI i), .int 0, .int 0, .int 0]) (rest := []) h.o cl_Md rfl w_486 wp_20 (ct_Md_post0 h su (by omega) hs0 (nI i) 0 0 0) (Nat.le_of_ble_eq_true rfl) (Nat.le_of_ble_eq_true rfl) w_487 w_6 hy_Md_post w_484 rfl (Nat.le_of_ble_eq_true rfl) ⟨by decide, by decide⟩ d_Md_send_81 (fun rv M hp => ?_)
                obtain ⟨rfl, hw⟩ := hp
                refine V.eqst (st' := []) rfl (V.cs (k' := 0) (n' := 0) rfl rfl ?_)
                refine v_iload_n C (i := 1) d_Md_send_84 rfl rfl ?_
                exact v_iret hQ C rfl d_Md_send_85 (by omega) (by omega) (Or.inr ⟨c_4, Or.inr ⟨i, hpn, hp0, hpm, Or.inr ⟨c_52, rfl, hw⟩⟩⟩)
              · refine v_bipush C (v := (-2)) d_Md_send_55 (by decide) ?_
                exact v_iret hQ C rfl d_Md_send_57 (by omega) (by omega) (Or.inr ⟨c_4, Or.inr ⟨i, hpn, hp0, hpm, Or.inl ⟨c_52, rfl, h⟩⟩⟩)
            · have hi2 : i < p := Nat.lt_of_le_of_ne hi (fun z => c_35 (by rw [z]; exact hp0))
              refine v_iinc C (i := 1) (j := 0) (v := nI (i + 1)) (lv' := [(1, .int (nI (i + 1))), (0, .ref (ad 0))]) d_Md_send_38 rfl (nI_1 i) (by decide) rfl ?_
              refine v_goto C 23 d_Md_send_41 (by decide) ?_
              exact ih (i + 1) (by omega) (by omega)
      refine V.pick (lv' := [(1, .int (nI 0)), (0, .ref (ad 0))]) [0, 1] (by rw [nI_0]; rfl) ?_
      exact L (p + 1) 0 (by omega) (by omega)
    · have hcz : cnt (G.T 8) 0 n = 0 := Classical.byContradiction fun z => nI_ne0 (Nat.pos_of_ne_zero z) (by have := cnt_le (G.T 8) 0 n; omega) c_15
      refine v_bipush C (v := (-3)) d_Md_send_18 (by decide) ?_
      exact v_iret hQ C rfl d_Md_send_20 (by omega) (by omega) (Or.inr ⟨c_4, Or.inl ⟨cnt_zero hcz, rfl, h⟩⟩)
  · refine v_bipush C (v := (-4)) d_Md_send_7 (by decide) ?_
    exact v_iret hQ C rfl d_Md_send_9 (by omega) (by omega) (Or.inl ⟨c_4, rfl, h⟩)
set_option maxHeartbeats 4000000 in
set_option maxRecDepth 100000 in
theorem ct_Md_drop {D : va_G} {l : Launch} {cI cZ cR cM : ClassId} {M : Mem} {ad : Nat → Nat} {G : G2} (h : R2 cI cZ M ad G) (n : Nat) (hn : G.I 3 = nI n) (hn120 : n ≤ 120) : Ct TT D cls (tyL cI cZ cR cM) l y_Md_drop b_Md_drop 1 (some .int) 1 21 0 0 [.ref (ad 0)] M (fun rv M' => (G.I 4 = 0 ∧ rv = some (.int (-4)) ∧ R2 cI cZ M' ad G) ∨ (¬ G.I 4 = 0 ∧ rv = some (.int 0) ∧ R2 cI cZ M' ad (G.end_ n))) := by
  refine ct_of "BlockTargetSessionModel" rfl (by decide) (Nat.le_of_ble_eq_true rfl) ?_
  intro Z hl hD hnm hQ C
  subst hl
  subst hD
  show V cls 1 (rmOf 1 21 0 0) Z 0 [(0, .ref (ad 0))] [] M 0 0
  refine v_aload_n C (i := 0) d_Md_drop_0 rfl rfl ?_
  refine v_get C (v := .int (G.I 4)) in_Md h.o cl_Md 20 (by decide) w_391 rfl rfl d_Md_drop_1 ?_
  refine v_if_ne C 10 d_Md_drop_4 (by decide) (fun c_4 => ?_) (fun c_4 => ?_)
  · refine v_aload_n C (i := 0) d_Md_drop_10 rfl rfl ?_
    refine v_callV C (As := []) (rest := []) h.o cl_Md rfl w_494 wp_21 (ct_Md_end h n hn hn120) (Nat.le_of_ble_eq_true rfl) (Nat.le_of_ble_eq_true rfl) w_495 w_6 hy_Md_end w_492 rfl (Nat.le_of_ble_eq_true rfl) ⟨by decide, by decide⟩ d_Md_drop_11 (fun rv M hp => ?_)
    obtain ⟨rfl, h⟩ := hp
    refine V.eqst (st' := []) rfl (V.cs (k' := 0) (n' := 0) rfl rfl ?_)
    refine v_iconst C (v := 0) d_Md_drop_14 (by decide) ?_
    exact v_iret hQ C rfl d_Md_drop_15 (by omega) (by omega) (Or.inr ⟨c_4, rfl, h⟩)
  · refine v_bipush C (v := (-4)) d_Md_drop_7 (by decide) ?_
    exact v_iret hQ C rfl d_Md_drop_9 (by omega) (by omega) (Or.inl ⟨c_4, rfl, h⟩)
def zer (f : Nat → Int32) (i : Nat) : Nat → Int32 := fun j => if j < i then 0 else f j
theorem zer_0 (f : Nat → Int32) : zer f 0 = f := by funext j; simp [zer]
theorem zer_s (f : Nat → Int32) (i : Nat) : upd (zer f i) i 0 = zer f (i + 1) := by
  funext j
  by_cases h : j = i
  · subst h; rw [pk_us]; simp [zer]
  · rw [pk_un h]
    simp only [zer]
    by_cases h2 : j < i
    · rw [if_pos h2, if_pos (by omega)]
    · rw [if_neg h2, if_neg (by omega)]
set_option maxHeartbeats 4000000 in
set_option maxRecDepth 100000 in
theorem ct_Md_crash {D : va_G} {l : Launch} {cI cZ cR cM : ClassId} {M : Mem} {ad : Nat → Nat} {G : G2} (h : R2 cI cZ M ad G) (n : Nat) (hn : G.I 3 = nI n) (hn120 : n ≤ 120) : Ct TT D cls (tyL cI cZ cR cM) l y_Md_crash b_Md_crash 2 (some .int) 1 21 0 0 [.ref (ad 0)] M (fun rv M' => rv = some (.int 0) ∧ ((G.I 4 = 0 ∧ R2 cI cZ M' ad (G.sT 3 (zer (G.T 3) 16))) ∨ (¬ G.I 4 = 0 ∧ R2 cI cZ M' ad ((G.end_ n).sT 3 (zer ((G.end_ n).T 3) 16))))) := by
  refine ct_of "BlockTargetSessionModel" rfl (by decide) (Nat.le_of_ble_eq_true rfl) ?_
  intro Z hl hD hnm hQ C
  subst hl
  subst hD
  show V cls 2 (rmOf 1 21 0 0) Z 0 [(0, .ref (ad 0))] [] M 0 0
  refine v_aload_n C (i := 0) d_Md_crash_0 rfl rfl ?_
  refine v_get C (v := .int (G.I 4)) in_Md h.o cl_Md 20 (by decide) w_391 rfl rfl d_Md_crash_1 ?_
  refine v_if_eq C 11 d_Md_crash_4 (by decide) (fun c_4 => ?_) (fun c_4 => ?_)
  · refine v_iconst C (v := 0) d_Md_crash_11 (by decide) ?_
    refine v_istore_n C (i := 1) (lv' := [(1, .int 0), (0, .ref (ad 0))]) d_Md_crash_12 rfl (by decide) rfl ?_
    obtain ⟨K, hK⟩ : ∃ K, K = G := ⟨_, rfl⟩
    rw [← hK] at h
    have L : ∀ (fu i : Nat) (M : Mem), 16 - i < fu → i ≤ 16 → R2 cI cZ M ad (K.sT 3 (zer (K.T 3) i)) → V cls 2 (rmOf 1 21 0 0) Z 13 [(1, .int (nI i)), (0, .ref (ad 0))] [] M 0 0 := by
      intro fu
      induction fu with
      | zero => intro i M hf; omega
      | succ fu ih =>
        intro i M hf hi h
        refine v_iload_n C (i := 1) d_Md_crash_13 rfl rfl ?_
        refine v_bipush C (v := 16) d_Md_crash_14 (by decide) ?_
        refine v_icmp_ge C 32 d_Md_crash_16 (by decide) (fun c_16 => ?_) (fun c_16 => ?_)
        · have hi2 : i = 16 := Nat.le_antisymm hi ((nI_leI (a := 16) (by omega) (by omega)).mp c_16)
          subst hi2
          refine v_iconst C (v := 0) d_Md_crash_32 (by decide) ?_
          exact v_iret hQ C rfl d_Md_crash_33 (by omega) (by omega) ⟨rfl, Or.inl ⟨c_4, by rw [hK] at h; exact h⟩⟩
        · have hi2 : i < 16 := Nat.lt_of_not_le (fun z => c_16 ((nI_leI (a := 16) (by omega) (by omega)).mpr z))
          refine v_aload_n C (i := 0) d_Md_crash_19 rfl rfl ?_
          refine v_get C (v := .ref (ad 3)) in_Md h.o cl_Md 4 (by decide) w_375 rfl rfl d_Md_crash_20 ?_
          refine v_iload_n C (i := 1) d_Md_crash_23 rfl rfl ?_
          refine v_iconst C (v := 0) d_Md_crash_24 (by decide) ?_
          refine v_iast C (N := 16) (f := zer (K.T 3) i) 0 (h.a 3 (by decide) (by decide)) rfl (pk_in i 16 (by omega)) d_Md_crash_25 ?_
          rw [show Int32.toNatClampNeg (nI i) = i from pk_cl _ (hx := rfl)]
          have h : R2 cI cZ (mset M (ad 3) (aI cI 16 (upd (zer (K.T 3) i) i 0))) ad ((K.sT 3 (zer (K.T 3) i)).sT 3 (upd (zer (K.T 3) i) i 0)) := h.pa 3 (by decide) (by decide) (upd (zer (K.T 3) i) i 0)
          revert h
          generalize mset M (ad 3) (aI cI 16 (upd (zer (K.T 3) i) i 0)) = M
          intro h
          rw [G2.sT_same, zer_s] at h
          refine v_iinc C (i := 1) (j := 0) (v := nI (i + 1)) (lv' := [(1, .int (nI (i + 1))), (0, .ref (ad 0))]) d_Md_crash_26 rfl (nI_1 i) (by decide) rfl ?_
          refine v_goto C 13 d_Md_crash_29 (by decide) ?_
          exact ih (i + 1) M (by omega) (by omega) h
    refine V.pick (lv' := [(1, .int (nI 0)), (0, .ref (ad 0))]) [0, 1] (by rw [nI_0]; rfl) ?_
    refine L 17 0 M (by omega) (by omega) ?_
    rw [zer_0, G2.sT_id]
    exact h
  · refine v_aload_n C (i := 0) d_Md_crash_7 rfl rfl ?_
    refine v_callV C (As := []) (rest := []) h.o cl_Md rfl w_494 wp_21 (ct_Md_end h n hn hn120) (Nat.le_of_ble_eq_true rfl) (Nat.le_of_ble_eq_true rfl) w_495 w_6 hy_Md_end w_492 rfl (Nat.le_of_ble_eq_true rfl) ⟨by decide, by decide⟩ d_Md_crash_8 (fun rv M hp => ?_)
    obtain ⟨rfl, h⟩ := hp
    refine V.eqst (st' := []) rfl (V.cs (k' := 0) (n' := 0) rfl rfl ?_)
    refine v_iconst C (v := 0) d_Md_crash_11 (by decide) ?_
    refine v_istore_n C (i := 1) (lv' := [(1, .int 0), (0, .ref (ad 0))]) d_Md_crash_12 rfl (by decide) rfl ?_
    obtain ⟨K, hK⟩ : ∃ K, K = (G.end_ n) := ⟨_, rfl⟩
    rw [← hK] at h
    have L : ∀ (fu i : Nat) (M : Mem), 16 - i < fu → i ≤ 16 → R2 cI cZ M ad (K.sT 3 (zer (K.T 3) i)) → V cls 2 (rmOf 1 21 0 0) Z 13 [(1, .int (nI i)), (0, .ref (ad 0))] [] M 0 0 := by
      intro fu
      induction fu with
      | zero => intro i M hf; omega
      | succ fu ih =>
        intro i M hf hi h
        refine v_iload_n C (i := 1) d_Md_crash_13 rfl rfl ?_
        refine v_bipush C (v := 16) d_Md_crash_14 (by decide) ?_
        refine v_icmp_ge C 32 d_Md_crash_16 (by decide) (fun c_16 => ?_) (fun c_16 => ?_)
        · have hi2 : i = 16 := Nat.le_antisymm hi ((nI_leI (a := 16) (by omega) (by omega)).mp c_16)
          subst hi2
          refine v_iconst C (v := 0) d_Md_crash_32 (by decide) ?_
          exact v_iret hQ C rfl d_Md_crash_33 (by omega) (by omega) ⟨rfl, Or.inr ⟨c_4, by rw [hK] at h; exact h⟩⟩
        · have hi2 : i < 16 := Nat.lt_of_not_le (fun z => c_16 ((nI_leI (a := 16) (by omega) (by omega)).mpr z))
          refine v_aload_n C (i := 0) d_Md_crash_19 rfl rfl ?_
          refine v_get C (v := .ref (ad 3)) in_Md h.o cl_Md 4 (by decide) w_375 rfl rfl d_Md_crash_20 ?_
          refine v_iload_n C (i := 1) d_Md_crash_23 rfl rfl ?_
          refine v_iconst C (v := 0) d_Md_crash_24 (by decide) ?_
          refine v_iast C (N := 16) (f := zer (K.T 3) i) 0 (h.a 3 (by decide) (by decide)) rfl (pk_in i 16 (by omega)) d_Md_crash_25 ?_
          rw [show Int32.toNatClampNeg (nI i) = i from pk_cl _ (hx := rfl)]
          have h : R2 cI cZ (mset M (ad 3) (aI cI 16 (upd (zer (K.T 3) i) i 0))) ad ((K.sT 3 (zer (K.T 3) i)).sT 3 (upd (zer (K.T 3) i) i 0)) := h.pa 3 (by decide) (by decide) (upd (zer (K.T 3) i) i 0)
          revert h
          generalize mset M (ad 3) (aI cI 16 (upd (zer (K.T 3) i) i 0)) = M
          intro h
          rw [G2.sT_same, zer_s] at h
          refine v_iinc C (i := 1) (j := 0) (v := nI (i + 1)) (lv' := [(1, .int (nI (i + 1))), (0, .ref (ad 0))]) d_Md_crash_26 rfl (nI_1 i) (by decide) rfl ?_
          refine v_goto C 13 d_Md_crash_29 (by decide) ?_
          exact ih (i + 1) M (by omega) (by omega) h
    refine V.pick (lv' := [(1, .int (nI 0)), (0, .ref (ad 0))]) [0, 1] (by rw [nI_0]; rfl) ?_
    refine L 17 0 M (by omega) (by omega) ?_
    rw [zer_0, G2.sT_id]
    exact h
def G2.bg (G : G2) : G2 := ((((G.sI 4 1).sI 5 0).sI 6 0).sI 7 (G.I 0)).sI 8 (G.I 8 + 1)
set_option maxHeartbeats 4000000 in
set_option maxRecDepth 100000 in
theorem ct_Md_login {D : va_G} {l : Launch} {cI cZ cR cM : ClassId} {M : Mem} {ad : Nat → Nat} {G : G2} (h : R2 cI cZ M ad G) (n : Nat) (hn : G.I 3 = nI n) (hn120 : n ≤ 120) : Ct TT D cls (tyL cI cZ cR cM) l y_Md_login b_Md_login 1 (some .int) 1 23 0 0 [.ref (ad 0)] M (fun rv M' => (¬ G.I 4 = 0 ∧ rv = some (.int (-1)) ∧ R2 cI cZ M' ad G) ∨ (G.I 4 = 0 ∧ rv = some (.int (nI (cnt (G.T 8) 0 n))) ∧ R2 cI cZ M' ad G.bg)) := by
  refine ct_of "BlockTargetSessionModel" rfl (by decide) (Nat.le_of_ble_eq_true rfl) ?_
  intro Z hl hD hnm hQ C
  subst hl
  subst hD
  show V cls 1 (rmOf 1 23 0 0) Z 0 [(0, .ref (ad 0))] [] M 0 0
  refine v_aload_n C (i := 0) d_Md_login_0 rfl rfl ?_
  refine v_get C (v := .int (G.I 4)) in_Md h.o cl_Md 20 (by decide) w_391 rfl rfl d_Md_login_1 ?_
  refine v_if_eq C 9 d_Md_login_4 (by decide) (fun c_4 => ?_) (fun c_4 => ?_)
  · refine v_aload_n C (i := 0) d_Md_login_9 rfl rfl ?_
    refine v_iconst C (v := 1) d_Md_login_10 (by decide) ?_
    refine v_put C in_Md t_Md to_Md nm_Md h.o cl_Md 20 (by decide) (fs' := [.int (G.I 0), .int (G.I 1), .ref (ad 1), .ref (ad 2), .ref (ad 3), .int (G.I 2), .ref (ad 4), .ref (ad 5), .ref (ad 6), .ref (ad 7), .ref (ad 8), .ref (ad 9), .int (G.I 3), .ref (ad 10), .ref (ad 11), .ref (ad 12), .ref (ad 13), .ref (ad 14), .ref (ad 15), .ref (ad 16), .int 1, .int (G.I 5), .int (G.I 6), .int (G.I 7), .int (G.I 8)]) w_391 rfl rfl rfl rfl (Nat.le_of_ble_eq_true rfl) rfl d_Md_login_11 ?_
    have h : R2 cI cZ (mset M (ad 0) (ob 5 [.int (G.I 0), .int (G.I 1), .ref (ad 1), .ref (ad 2), .ref (ad 3), .int (G.I 2), .ref (ad 4), .ref (ad 5), .ref (ad 6), .ref (ad 7), .ref (ad 8), .ref (ad 9), .int (G.I 3), .ref (ad 10), .ref (ad 11), .ref (ad 12), .ref (ad 13), .ref (ad 14), .ref (ad 15), .ref (ad 16), .int 1, .int (G.I 5), .int (G.I 6), .int (G.I 7), .int (G.I 8)])) ad (G.sI 4 1) := h.po 4 1
    revert h
    generalize mset M (ad 0) (ob 5 [.int (G.I 0), .int (G.I 1), .ref (ad 1), .ref (ad 2), .ref (ad 3), .int (G.I 2), .ref (ad 4), .ref (ad 5), .ref (ad 6), .ref (ad 7), .ref (ad 8), .ref (ad 9), .int (G.I 3), .ref (ad 10), .ref (ad 11), .ref (ad 12), .ref (ad 13), .ref (ad 14), .ref (ad 15), .ref (ad 16), .int 1, .int (G.I 5), .int (G.I 6), .int (G.I 7), .int (G.I 8)]) = M
    intro h
    refine v_aload_n C (i := 0) d_Md_login_14 rfl rfl ?_
    refine v_iconst C (v := 0) d_Md_login_15 (by decide) ?_
    refine v_put C in_Md t_Md to_Md nm_Md h.o cl_Md 21 (by decide) (fs' := [.int (G.I 0), .int (G.I 1), .ref (ad 1), .ref (ad 2), .ref (ad 3), .int (G.I 2), .ref (ad 4), .ref (ad 5), .ref (ad 6), .ref (ad 7), .ref (ad 8), .ref (ad 9), .int (G.I 3), .ref (ad 10), .ref (ad 11), .ref (ad 12), .ref (ad 13), .ref (ad 14), .ref (ad 15), .ref (ad 16), .int 1, .int 0, .int (G.I 6), .int (G.I 7), .int (G.I 8)]) w_392 rfl rfl rfl rfl (Nat.le_of_ble_eq_true rfl) rfl d_Md_login_16 ?_
    have h : R2 cI cZ (mset M (ad 0) (ob 5 [.int (G.I 0), .int (G.I 1), .ref (ad 1), .ref (ad 2), .ref (ad 3), .int (G.I 2), .ref (ad 4), .ref (ad 5), .ref (ad 6), .ref (ad 7), .ref (ad 8), .ref (ad 9), .int (G.I 3), .ref (ad 10), .ref (ad 11), .ref (ad 12), .ref (ad 13), .ref (ad 14), .ref (ad 15), .ref (ad 16), .int 1, .int 0, .int (G.I 6), .int (G.I 7), .int (G.I 8)])) ad ((G.sI 4 1).sI 5 0) := h.po 5 0
    revert h
    generalize mset M (ad 0) (ob 5 [.int (G.I 0), .int (G.I 1), .ref (ad 1), .ref (ad 2), .ref (ad 3), .int (G.I 2), .ref (ad 4), .ref (ad 5), .ref (ad 6), .ref (ad 7), .ref (ad 8), .ref (ad 9), .int (G.I 3), .ref (ad 10), .ref (ad 11), .ref (ad 12), .ref (ad 13), .ref (ad 14), .ref (ad 15), .ref (ad 16), .int 1, .int 0, .int (G.I 6), .int (G.I 7), .int (G.I 8)]) = M
    intro h
    refine v_aload_n C (i := 0) d_Md_login_19 rfl rfl ?_
    refine v_iconst C (v := 0) d_Md_login_20 (by decide) ?_
    refine v_put C in_Md t_Md to_Md nm_Md h.o cl_Md 22 (by decide) (fs' := [.int (G.I 0), .int (G.I 1), .ref (ad 1), .ref (ad 2), .ref (ad 3), .int (G.I 2), .ref (ad 4), .ref (ad 5), .ref (ad 6), .ref (ad 7), .ref (ad 8), .ref (ad 9), .int (G.I 3), .ref (ad 10), .ref (ad 11), .ref (ad 12), .ref (ad 13), .ref (ad 14), .ref (ad 15), .ref (ad 16), .int 1, .int 0, .int 0, .int (G.I 7), .int (G.I 8)]) w_393 rfl rfl rfl rfl (Nat.le_of_ble_eq_true rfl) rfl d_Md_login_21 ?_
    have h : R2 cI cZ (mset M (ad 0) (ob 5 [.int (G.I 0), .int (G.I 1), .ref (ad 1), .ref (ad 2), .ref (ad 3), .int (G.I 2), .ref (ad 4), .ref (ad 5), .ref (ad 6), .ref (ad 7), .ref (ad 8), .ref (ad 9), .int (G.I 3), .ref (ad 10), .ref (ad 11), .ref (ad 12), .ref (ad 13), .ref (ad 14), .ref (ad 15), .ref (ad 16), .int 1, .int 0, .int 0, .int (G.I 7), .int (G.I 8)])) ad (((G.sI 4 1).sI 5 0).sI 6 0) := h.po 6 0
    revert h
    generalize mset M (ad 0) (ob 5 [.int (G.I 0), .int (G.I 1), .ref (ad 1), .ref (ad 2), .ref (ad 3), .int (G.I 2), .ref (ad 4), .ref (ad 5), .ref (ad 6), .ref (ad 7), .ref (ad 8), .ref (ad 9), .int (G.I 3), .ref (ad 10), .ref (ad 11), .ref (ad 12), .ref (ad 13), .ref (ad 14), .ref (ad 15), .ref (ad 16), .int 1, .int 0, .int 0, .int (G.I 7), .int (G.I 8)]) = M
    intro h
    refine v_aload_n C (i := 0) d_Md_login_24 rfl rfl ?_
    refine v_aload_n C (i := 0) d_Md_login_25 rfl rfl ?_
    refine v_get C (v := .int (G.I 0)) in_Md h.o cl_Md 0 (by decide) w_371 rfl rfl d_Md_login_26 ?_
    refine v_put C in_Md t_Md to_Md nm_Md h.o cl_Md 23 (by decide) (fs' := [.int (G.I 0), .int (G.I 1), .ref (ad 1), .ref (ad 2), .ref (ad 3), .int (G.I 2), .ref (ad 4), .ref (ad 5), .ref (ad 6), .ref (ad 7), .ref (ad 8), .ref (ad 9), .int (G.I 3), .ref (ad 10), .ref (ad 11), .ref (ad 12), .ref (ad 13), .ref (ad 14), .ref (ad 15), .ref (ad 16), .int 1, .int 0, .int 0, .int (G.I 0), .int (G.I 8)]) w_394 rfl rfl rfl rfl (Nat.le_of_ble_eq_true rfl) rfl d_Md_login_29 ?_
    have h : R2 cI cZ (mset M (ad 0) (ob 5 [.int (G.I 0), .int (G.I 1), .ref (ad 1), .ref (ad 2), .ref (ad 3), .int (G.I 2), .ref (ad 4), .ref (ad 5), .ref (ad 6), .ref (ad 7), .ref (ad 8), .ref (ad 9), .int (G.I 3), .ref (ad 10), .ref (ad 11), .ref (ad 12), .ref (ad 13), .ref (ad 14), .ref (ad 15), .ref (ad 16), .int 1, .int 0, .int 0, .int (G.I 0), .int (G.I 8)])) ad ((((G.sI 4 1).sI 5 0).sI 6 0).sI 7 (G.I 0)) := h.po 7 (G.I 0)
    revert h
    generalize mset M (ad 0) (ob 5 [.int (G.I 0), .int (G.I 1), .ref (ad 1), .ref (ad 2), .ref (ad 3), .int (G.I 2), .ref (ad 4), .ref (ad 5), .ref (ad 6), .ref (ad 7), .ref (ad 8), .ref (ad 9), .int (G.I 3), .ref (ad 10), .ref (ad 11), .ref (ad 12), .ref (ad 13), .ref (ad 14), .ref (ad 15), .ref (ad 16), .int 1, .int 0, .int 0, .int (G.I 0), .int (G.I 8)]) = M
    intro h
    refine v_aload_n C (i := 0) d_Md_login_32 rfl rfl ?_
    refine v_dup C d_Md_login_33 rfl ?_
    refine v_get C (v := .int (G.I 8)) in_Md h.o cl_Md 24 (by decide) w_395 rfl rfl d_Md_login_34 ?_
    refine v_iconst C (v := 1) d_Md_login_37 (by decide) ?_
    refine v_iadd C d_Md_login_38 ?_
    refine v_put C in_Md t_Md to_Md nm_Md h.o cl_Md 24 (by decide) (fs' := [.int (G.I 0), .int (G.I 1), .ref (ad 1), .ref (ad 2), .ref (ad 3), .int (G.I 2), .ref (ad 4), .ref (ad 5), .ref (ad 6), .ref (ad 7), .ref (ad 8), .ref (ad 9), .int (G.I 3), .ref (ad 10), .ref (ad 11), .ref (ad 12), .ref (ad 13), .ref (ad 14), .ref (ad 15), .ref (ad 16), .int 1, .int 0, .int 0, .int (G.I 0), .int ((G.I 8) + 1)]) w_395 rfl rfl rfl rfl (Nat.le_of_ble_eq_true rfl) rfl d_Md_login_39 ?_
    have h : R2 cI cZ (mset M (ad 0) (ob 5 [.int (G.I 0), .int (G.I 1), .ref (ad 1), .ref (ad 2), .ref (ad 3), .int (G.I 2), .ref (ad 4), .ref (ad 5), .ref (ad 6), .ref (ad 7), .ref (ad 8), .ref (ad 9), .int (G.I 3), .ref (ad 10), .ref (ad 11), .ref (ad 12), .ref (ad 13), .ref (ad 14), .ref (ad 15), .ref (ad 16), .int 1, .int 0, .int 0, .int (G.I 0), .int ((G.I 8) + 1)])) ad (((((G.sI 4 1).sI 5 0).sI 6 0).sI 7 (G.I 0)).sI 8 ((G.I 8) + 1)) := h.po 8 ((G.I 8) + 1)
    revert h
    generalize mset M (ad 0) (ob 5 [.int (G.I 0), .int (G.I 1), .ref (ad 1), .ref (ad 2), .ref (ad 3), .int (G.I 2), .ref (ad 4), .ref (ad 5), .ref (ad 6), .ref (ad 7), .ref (ad 8), .ref (ad 9), .int (G.I 3), .ref (ad 10), .ref (ad 11), .ref (ad 12), .ref (ad 13), .ref (ad 14), .ref (ad 15), .ref (ad 16), .int 1, .int 0, .int 0, .int (G.I 0), .int ((G.I 8) + 1)]) = M
    intro h
    refine v_aload_n C (i := 0) d_Md_login_42 rfl rfl ?_
    refine v_iconst C (v := 0) d_Md_login_43 (by decide) ?_
    refine v_callV C (As := [.int 0]) (rest := []) h.o cl_Md rfl w_482 wp_19 (ct_Md_number h n hn hn120 0) (Nat.le_of_ble_eq_true rfl) (Nat.le_of_ble_eq_true rfl) w_483 w_6 hy_Md_number w_480 rfl (Nat.le_of_ble_eq_true rfl) ⟨by decide, by decide⟩ d_Md_login_44 (fun rv M hp => ?_)
    obtain ⟨rfl, rfl⟩ := hp
    refine V.eqst (st' := [.int (nI (cnt (G.T 8) 0 n))]) rfl (V.cs (k' := 0) (n' := 0) rfl rfl ?_)
    exact v_iret hQ C rfl d_Md_login_47 (by omega) (by omega) (Or.inr ⟨c_4, rfl, h⟩)
  · refine v_iconst C (v := (-1)) d_Md_login_7 (by decide) ?_
    exact v_iret hQ C rfl d_Md_login_8 (by omega) (by omega) (Or.inl ⟨c_4, rfl, h⟩)
set_option maxHeartbeats 4000000 in
set_option maxRecDepth 100000 in
theorem ct_Md_state {D : va_G} {l : Launch} {cI cZ cR cM : ClassId} {M : Mem} {ad : Nat → Nat} {G : G2} (h : R2 cI cZ M ad G) (n : Nat) (hn : G.I 3 = nI n) (hn120 : n ≤ 120) (x : Int32) : Ct TT D cls (tyL cI cZ cR cM) l y_Md_state b_Md_state 2 (some .int) 0 0 0 0 [.ref (ad 0), .int x] M (fun rv M' => M' = M ∧ (((x < 0 ∨ nI n ≤ x) ∧ rv = some (.int (-1))) ∨ ∃ q, q < n ∧ x = nI q ∧ rv = some (.int (G.T 8 q)))) := by
  refine ct_of "BlockTargetSessionModel" rfl (by decide) (Nat.le_of_ble_eq_true rfl) ?_
  intro Z hl hD hnm hQ C
  subst hl
  subst hD
  show V cls 2 (rmOf 0 0 0 0) Z 0 [(0, .ref (ad 0)), (1, .int x)] [] M 0 0
  refine v_iload_n C (i := 1) d_Md_state_0 rfl rfl ?_
  refine v_if_lt C 12 d_Md_state_1 (by decide) (fun c_1 => ?_) (fun c_1 => ?_)
  · refine v_iconst C (v := (-1)) d_Md_state_12 (by decide) ?_
    refine v_goto C 22 d_Md_state_13 (by decide) ?_
    exact v_iret hQ C rfl d_Md_state_22 (by omega) (by omega) ⟨rfl, Or.inl ⟨Or.inl c_1, rfl⟩⟩
  · refine v_iload_n C (i := 1) d_Md_state_4 rfl rfl ?_
    refine v_aload_n C (i := 0) d_Md_state_5 rfl rfl ?_
    refine v_get C (v := .int (G.I 3)) in_Md h.o cl_Md 12 (by decide) w_383 rfl rfl d_Md_state_6 ?_
    refine V.eqst (st' := [.int (nI n), .int x]) (by rw [hn]) ?_
    refine v_icmp_lt C 16 d_Md_state_9 (by decide) (fun c_9 => ?_) (fun c_9 => ?_)
    · obtain ⟨q, hqn, rfl⟩ : ∃ q : Nat, q < n ∧ x = nI q := by
        rcases pk_ix x (n := n) (by omega) with z | z | z
        · exact absurd z c_1
        · exact absurd z (Int32.not_le.mpr c_9)
        · exact z
      refine v_aload_n C (i := 0) d_Md_state_16 rfl rfl ?_
      refine v_get C (v := .ref (ad 8)) in_Md h.o cl_Md 10 (by decide) w_381 rfl rfl d_Md_state_17 ?_
      refine v_iload_n C (i := 1) d_Md_state_20 rfl rfl ?_
      refine v_iald C (N := 120) (f := G.T 8) 0 (h.a 8 (by decide) (by decide)) rfl (pk_in q 120 (by omega)) d_Md_state_21 ?_
      refine V.eqst (st' := [.int (G.T 8 q)]) (by rw [show Int32.toNatClampNeg (nI q) = q from pk_cl _ (hx := rfl)]) ?_
      exact v_iret hQ C rfl d_Md_state_22 (by omega) (by omega) ⟨rfl, Or.inr ⟨q, hqn, rfl, rfl⟩⟩
    · refine v_iconst C (v := (-1)) d_Md_state_12 (by decide) ?_
      refine v_goto C 22 d_Md_state_13 (by decide) ?_
      exact v_iret hQ C rfl d_Md_state_22 (by omega) (by omega) ⟨rfl, Or.inl ⟨Or.inr (Int32.not_lt.mp c_9), rfl⟩⟩
set_option maxHeartbeats 4000000 in
set_option maxRecDepth 100000 in
theorem ct_Md_result {D : va_G} {l : Launch} {cI cZ cR cM : ClassId} {M : Mem} {ad : Nat → Nat} {G : G2} (h : R2 cI cZ M ad G) (n : Nat) (hn : G.I 3 = nI n) (hn120 : n ≤ 120) (hlen : ∀ q, q < n → ∃ c : Nat, c ≤ 3 ∧ G.T 6 q = nI c) (x y : Int32) : Ct TT D cls (tyL cI cZ cR cM) l y_Md_result b_Md_result 3 (some .long) 0 0 0 0 [.ref (ad 0), .int x, .int y] M (fun rv M' => M' = M ∧ (((x < 0 ∨ nI n ≤ x) ∧ rv = some (.long (-1000000000000))) ∨ ∃ q, q < n ∧ x = nI q ∧ (((¬ G.T 4 q = 1 ∨ ¬ G.T 8 q = 2) ∧ rv = some (.long (-1000000000000))) ∨ (G.T 4 q = 1 ∧ G.T 8 q = 2 ∧ (((y < 0 ∨ ¬ y < G.T 6 q) ∧ rv = some (.long (-1000000000000))) ∨ ∃ k : Nat, k < 3 ∧ nI k < G.T 6 q ∧ y = nI k ∧ rv = some (.long (G.T 9 (q * 3 + k)).toInt64)))))) := by
  refine ct_of "BlockTargetSessionModel" rfl (by decide) (Nat.le_of_ble_eq_true rfl) ?_
  intro Z hl hD hnm hQ C
  subst hl
  subst hD
  show V cls 3 (rmOf 0 0 0 0) Z 0 [(0, .ref (ad 0)), (1, .int x), (2, .int y)] [] M 0 0
  refine v_iload_n C (i := 1) d_Md_result_0 rfl rfl ?_
  refine v_if_lt C 32 d_Md_result_1 (by decide) (fun c_1 => ?_) (fun c_1 => ?_)
  · refine v_ldc2 C d_Md_result_32 w_549 ?_
    exact v_lret hQ C rfl d_Md_result_35 (by omega) (by omega) ⟨rfl, Or.inl ⟨Or.inl c_1, rfl⟩⟩
  · refine v_iload_n C (i := 1) d_Md_result_4 rfl rfl ?_
    refine v_aload_n C (i := 0) d_Md_result_5 rfl rfl ?_
    refine v_get C (v := .int (G.I 3)) in_Md h.o cl_Md 12 (by decide) w_383 rfl rfl d_Md_result_6 ?_
    refine V.eqst (st' := [.int (nI n), .int x]) (by rw [hn]) ?_
    refine v_icmp_ge C 32 d_Md_result_9 (by decide) (fun c_9 => ?_) (fun c_9 => ?_)
    · refine v_ldc2 C d_Md_result_32 w_549 ?_
      exact v_lret hQ C rfl d_Md_result_35 (by omega) (by omega) ⟨rfl, Or.inl ⟨Or.inr c_9, rfl⟩⟩
    · obtain ⟨q, hqn, rfl⟩ : ∃ q : Nat, q < n ∧ x = nI q := by
        rcases pk_ix x (n := n) (by omega) with z | z | z
        · exact absurd z c_1
        · exact absurd z (c_9)
        · exact z
      refine v_aload_n C (i := 0) d_Md_result_12 rfl rfl ?_
      refine v_get C (v := .ref (ad 4)) in_Md h.o cl_Md 6 (by decide) w_377 rfl rfl d_Md_result_13 ?_
      refine v_iload_n C (i := 1) d_Md_result_16 rfl rfl ?_
      refine v_iald C (N := 120) (f := G.T 4) 0 (h.a 4 (by decide) (by decide)) rfl (pk_in q 120 (by omega)) d_Md_result_17 ?_
      refine V.eqst (st' := [.int (G.T 4 q)]) (by rw [show Int32.toNatClampNeg (nI q) = q from pk_cl _ (hx := rfl)]) ?_
      refine v_iconst C (v := 1) d_Md_result_18 (by decide) ?_
      refine v_icmp_ne C 32 d_Md_result_19 (by decide) (fun c_19 => ?_) (fun c_19 => ?_)
      · refine v_ldc2 C d_Md_result_32 w_549 ?_
        exact v_lret hQ C rfl d_Md_result_35 (by omega) (by omega) ⟨rfl, Or.inr ⟨q, hqn, rfl, Or.inl ⟨Or.inl c_19, rfl⟩⟩⟩
      · refine v_aload_n C (i := 0) d_Md_result_22 rfl rfl ?_
        refine v_get C (v := .ref (ad 8)) in_Md h.o cl_Md 10 (by decide) w_381 rfl rfl d_Md_result_23 ?_
        refine v_iload_n C (i := 1) d_Md_result_26 rfl rfl ?_
        refine v_iald C (N := 120) (f := G.T 8) 0 (h.a 8 (by decide) (by decide)) rfl (pk_in q 120 (by omega)) d_Md_result_27 ?_
        refine V.eqst (st' := [.int (G.T 8 q)]) (by rw [show Int32.toNatClampNeg (nI q) = q from pk_cl _ (hx := rfl)]) ?_
        refine v_iconst C (v := 2) d_Md_result_28 (by decide) ?_
        refine v_icmp_eq C 36 d_Md_result_29 (by decide) (fun c_29 => ?_) (fun c_29 => ?_)
        · refine v_iload_n C (i := 2) d_Md_result_36 rfl rfl ?_
          refine v_if_lt C 50 d_Md_result_37 (by decide) (fun c_37 => ?_) (fun c_37 => ?_)
          · refine v_ldc2 C d_Md_result_50 w_549 ?_
            refine v_goto C 67 d_Md_result_53 (by decide) ?_
            exact v_lret hQ C rfl d_Md_result_67 (by omega) (by omega) ⟨rfl, Or.inr ⟨q, hqn, rfl, Or.inr ⟨c_19, c_29, Or.inl ⟨Or.inl c_37, rfl⟩⟩⟩⟩
          · refine v_iload_n C (i := 2) d_Md_result_40 rfl rfl ?_
            refine v_aload_n C (i := 0) d_Md_result_41 rfl rfl ?_
            refine v_get C (v := .ref (ad 6)) in_Md h.o cl_Md 8 (by decide) w_379 rfl rfl d_Md_result_42 ?_
            refine v_iload_n C (i := 1) d_Md_result_45 rfl rfl ?_
            refine v_iald C (N := 120) (f := G.T 6) 0 (h.a 6 (by decide) (by decide)) rfl (pk_in q 120 (by omega)) d_Md_result_46 ?_
            refine V.eqst (st' := [.int (G.T 6 q), .int y]) (by rw [show Int32.toNatClampNeg (nI q) = q from pk_cl _ (hx := rfl)]) ?_
            refine v_icmp_lt C 56 d_Md_result_47 (by decide) (fun c_47 => ?_) (fun c_47 => ?_)
            · obtain ⟨cc, hcc3, ecc⟩ := hlen q hqn
              obtain ⟨k, hk, rfl⟩ : ∃ k : Nat, k < 3 ∧ y = nI k := by
                rcases pk_ix y (n := 3) (by decide) with z | z | z
                · exact absurd z c_37
                · exact absurd c_47 (by rw [ecc]; exact Int32.not_lt.mpr (Int32.le_trans (nI_le hcc3 (by decide)) z))
                · exact z
              refine v_aload_n C (i := 0) d_Md_result_56 rfl rfl ?_
              refine v_get C (v := .ref (ad 9)) in_Md h.o cl_Md 11 (by decide) w_382 rfl rfl d_Md_result_57 ?_
              refine v_iload_n C (i := 1) d_Md_result_60 rfl rfl ?_
              refine v_iconst C (v := 3) d_Md_result_61 (by decide) ?_
              refine v_imul C d_Md_result_62 ?_
              refine V.eqst (st' := [.int (nI (q * 3)), .ref (ad 9)]) (by rw [show (3 : Int32) = nI 3 from rfl, pk_mul]) ?_
              refine v_iload_n C (i := 2) d_Md_result_63 rfl rfl ?_
              refine v_iadd C d_Md_result_64 ?_
              refine V.eqst (st' := [.int (nI (q * 3 + k)), .ref (ad 9)]) (by rw [nI_add]) ?_
              refine v_iald C (N := 360) (f := G.T 9) 0 (h.a 9 (by decide) (by decide)) rfl (pk_in (q * 3 + k) 360 (by omega)) d_Md_result_65 ?_
              refine V.eqst (st' := [.int (G.T 9 (q * 3 + k))]) (by rw [show Int32.toNatClampNeg (nI (q * 3 + k)) = q * 3 + k from pk_cl _ (hx := rfl)]) ?_
              refine v_i2l C d_Md_result_66 rfl ?_
              exact v_lret hQ C rfl d_Md_result_67 (by omega) (by omega) ⟨rfl, Or.inr ⟨q, hqn, rfl, Or.inr ⟨c_19, c_29, Or.inr ⟨k, hk, c_47, rfl, rfl⟩⟩⟩⟩
            · refine v_ldc2 C d_Md_result_50 w_549 ?_
              refine v_goto C 67 d_Md_result_53 (by decide) ?_
              exact v_lret hQ C rfl d_Md_result_67 (by omega) (by omega) ⟨rfl, Or.inr ⟨q, hqn, rfl, Or.inr ⟨c_19, c_29, Or.inl ⟨Or.inr c_47, rfl⟩⟩⟩⟩
        · refine v_ldc2 C d_Md_result_32 w_549 ?_
          exact v_lret hQ C rfl d_Md_result_35 (by omega) (by omega) ⟨rfl, Or.inr ⟨q, hqn, rfl, Or.inl ⟨Or.inr c_29, rfl⟩⟩⟩
set_option maxHeartbeats 4000000 in
set_option maxRecDepth 100000 in
theorem ct_Md_present {D : va_G} {l : Launch} {cI cZ cR cM : ClassId} {M : Mem} {ad : Nat → Nat} {G : G2} (h : R2 cI cZ M ad G) (x : Int32) : Ct TT D cls (tyL cI cZ cR cM) l y_Md_present b_Md_present 2 (some .long) 1 21 0 0 [.ref (ad 0), .int x] M (fun rv M' => M' = M ∧ ((∃ b, b < 16 ∧ x = nI b ∧ rv = some (.long (G.vo b).toInt64)) ∨ ((x < 0 ∨ ¬ x ≤ 15) ∧ rv = some (.long (-1000000000000))))) := by
  refine ct_of "BlockTargetSessionModel" rfl (by decide) (Nat.le_of_ble_eq_true rfl) ?_
  intro Z hl hD hnm hQ C
  subst hl
  subst hD
  show V cls 2 (rmOf 1 21 0 0) Z 0 [(0, .ref (ad 0)), (1, .int x)] [] M 0 0
  refine v_iload_n C (i := 1) d_Md_present_0 rfl rfl ?_
  refine v_if_lt C 10 d_Md_present_1 (by decide) (fun c_1 => ?_) (fun c_1 => ?_)
  · refine v_ldc2 C d_Md_present_10 w_549 ?_
    refine v_goto C 22 d_Md_present_13 (by decide) ?_
    exact v_lret hQ C rfl d_Md_present_22 (by omega) (by omega) ⟨rfl, Or.inr ⟨Or.inl c_1, rfl⟩⟩
  · refine v_iload_n C (i := 1) d_Md_present_4 rfl rfl ?_
    refine v_bipush C (v := 15) d_Md_present_5 (by decide) ?_
    refine v_icmp_le C 16 d_Md_present_7 (by decide) (fun c_7 => ?_) (fun c_7 => ?_)
    · obtain ⟨b, hb, rfl⟩ : ∃ b : Nat, b < 16 ∧ x = nI b := by
        rcases pk_ix x (n := 16) (by decide) with z | z | z
        · exact absurd z c_1
        · exact absurd (ts_big (n := 15) z (by decide)) (by have := Int32.le_iff_toInt_le.mp c_7; have e : (15 : Int32).toInt = 15 := rfl; omega)
        · exact z
      refine v_aload_n C (i := 0) d_Md_present_16 rfl rfl ?_
      refine v_iload_n C (i := 1) d_Md_present_17 rfl rfl ?_
      refine v_callV C (As := [.int (nI b)]) (rest := []) h.o cl_Md rfl w_519 wp_27 (ct_Md_valueOf h b hb) (Nat.le_of_ble_eq_true rfl) (Nat.le_of_ble_eq_true rfl) w_520 w_6 hy_Md_valueOf w_517 rfl (Nat.le_of_ble_eq_true rfl) ⟨by decide, by decide⟩ d_Md_present_18 (fun rv M hp => ?_)
      obtain ⟨rfl, rfl⟩ := hp
      refine V.eqst (st' := [.int (G.vo b)]) rfl (V.cs (k' := 0) (n' := 0) rfl rfl ?_)
      refine v_i2l C d_Md_present_21 rfl ?_
      exact v_lret hQ C rfl d_Md_present_22 (by omega) (by omega) ⟨rfl, Or.inl ⟨b, hb, rfl, rfl⟩⟩
    · refine v_ldc2 C d_Md_present_10 w_549 ?_
      refine v_goto C 22 d_Md_present_13 (by decide) ?_
      exact v_lret hQ C rfl d_Md_present_22 (by omega) (by omega) ⟨rfl, Or.inr ⟨Or.inr c_7, rfl⟩⟩
set_option maxHeartbeats 4000000 in
set_option maxRecDepth 100000 in
theorem ct_Md_disk {D : va_G} {l : Launch} {cI cZ cR cM : ClassId} {M : Mem} {ad : Nat → Nat} {G : G2} (h : R2 cI cZ M ad G) (x : Int32) : Ct TT D cls (tyL cI cZ cR cM) l y_Md_disk b_Md_disk 2 (some .long) 0 0 0 0 [.ref (ad 0), .int x] M (fun rv M' => M' = M ∧ ((∃ b, b < 16 ∧ x = nI b ∧ rv = some (.long (G.T 1 b).toInt64)) ∨ ((x < 0 ∨ ¬ x ≤ 15) ∧ rv = some (.long (-1000000000000))))) := by
  refine ct_of "BlockTargetSessionModel" rfl (by decide) (Nat.le_of_ble_eq_true rfl) ?_
  intro Z hl hD hnm hQ C
  subst hl
  subst hD
  show V cls 2 (rmOf 0 0 0 0) Z 0 [(0, .ref (ad 0)), (1, .int x)] [] M 0 0
  refine v_iload_n C (i := 1) d_Md_disk_0 rfl rfl ?_
  refine v_if_lt C 10 d_Md_disk_1 (by decide) (fun c_1 => ?_) (fun c_1 => ?_)
  · refine v_ldc2 C d_Md_disk_10 w_549 ?_
    refine v_goto C 23 d_Md_disk_13 (by decide) ?_
    exact v_lret hQ C rfl d_Md_disk_23 (by omega) (by omega) ⟨rfl, Or.inr ⟨Or.inl c_1, rfl⟩⟩
  · refine v_iload_n C (i := 1) d_Md_disk_4 rfl rfl ?_
    refine v_bipush C (v := 15) d_Md_disk_5 (by decide) ?_
    refine v_icmp_le C 16 d_Md_disk_7 (by decide) (fun c_7 => ?_) (fun c_7 => ?_)
    · obtain ⟨b, hb, rfl⟩ : ∃ b : Nat, b < 16 ∧ x = nI b := by
        rcases pk_ix x (n := 16) (by decide) with z | z | z
        · exact absurd z c_1
        · exact absurd (ts_big (n := 15) z (by decide)) (by have := Int32.le_iff_toInt_le.mp c_7; have e : (15 : Int32).toInt = 15 := rfl; omega)
        · exact z
      refine v_aload_n C (i := 0) d_Md_disk_16 rfl rfl ?_
      refine v_get C (v := .ref (ad 1)) in_Md h.o cl_Md 2 (by decide) w_373 rfl rfl d_Md_disk_17 ?_
      refine v_iload_n C (i := 1) d_Md_disk_20 rfl rfl ?_
      refine v_iald C (N := 16) (f := G.T 1) 0 (h.a 1 (by decide) (by decide)) rfl (pk_in b 16 hb) d_Md_disk_21 ?_
      refine V.eqst (st' := [.int (G.T 1 b)]) (by rw [show Int32.toNatClampNeg (nI b) = b from pk_cl _ (hx := rfl)]) ?_
      refine v_i2l C d_Md_disk_22 rfl ?_
      exact v_lret hQ C rfl d_Md_disk_23 (by omega) (by omega) ⟨rfl, Or.inl ⟨b, hb, rfl, rfl⟩⟩
    · refine v_ldc2 C d_Md_disk_10 w_549 ?_
      refine v_goto C 23 d_Md_disk_13 (by decide) ?_
      exact v_lret hQ C rfl d_Md_disk_23 (by omega) (by omega) ⟨rfl, Or.inr ⟨Or.inr c_7, rfl⟩⟩
set_option maxHeartbeats 4000000 in
set_option maxRecDepth 100000 in
theorem ct_Md_cached {D : va_G} {l : Launch} {cI cZ cR cM : ClassId} {M : Mem} {ad : Nat → Nat} {G : G2} (h : R2 cI cZ M ad G) (x : Int32) : Ct TT D cls (tyL cI cZ cR cM) l y_Md_cached b_Md_cached 2 (some .int) 1 24 0 0 [.ref (ad 0), .int x] M (fun rv M' => M' = M ∧ ∃ z : Int32, rv = some (.int z) ∧ ((¬ x < 0 ∧ x ≤ 15 ∧ bAt (G.T 3) x z) ∨ ((x < 0 ∨ ¬ x ≤ 15) ∧ z = -3))) := by
  refine ct_of "BlockTargetSessionModel" rfl (by decide) (Nat.le_of_ble_eq_true rfl) ?_
  intro Z hl hD hnm hQ C
  subst hl
  subst hD
  show V cls 2 (rmOf 1 24 0 0) Z 0 [(0, .ref (ad 0)), (1, .int x)] [] M 0 0
  refine v_iload_n C (i := 1) d_Md_cached_0 rfl rfl ?_
  refine v_if_lt C 10 d_Md_cached_1 (by decide) (fun c_1 => ?_) (fun c_1 => ?_)
  · refine v_bipush C (v := (-3)) d_Md_cached_10 (by decide) ?_
    refine v_goto C 20 d_Md_cached_12 (by decide) ?_
    exact v_iret hQ C rfl d_Md_cached_20 (by omega) (by omega) ⟨rfl, -3, rfl, Or.inr ⟨Or.inl c_1, rfl⟩⟩
  · refine v_iload_n C (i := 1) d_Md_cached_4 rfl rfl ?_
    refine v_bipush C (v := 15) d_Md_cached_5 (by decide) ?_
    refine v_icmp_le C 15 d_Md_cached_7 (by decide) (fun c_7 => ?_) (fun c_7 => ?_)
    · refine v_aload_n C (i := 0) d_Md_cached_15 rfl rfl ?_
      refine v_iload_n C (i := 1) d_Md_cached_16 rfl rfl ?_
      refine v_callV C (As := [.int x]) (rest := []) h.o cl_Md rfl w_474 wp_18 (ct_Md_blockAt h x) (Nat.le_of_ble_eq_true rfl) (Nat.le_of_ble_eq_true rfl) w_475 w_6 hy_Md_blockAt w_472 rfl (Nat.le_of_ble_eq_true rfl) ⟨by decide, by decide⟩ d_Md_cached_17 (fun rv M hp => ?_)
      obtain ⟨rfl, z, rfl, hz⟩ := hp
      refine V.eqst (st' := [.int z]) rfl (V.cs (k' := 0) (n' := 0) rfl rfl ?_)
      exact v_iret hQ C rfl d_Md_cached_20 (by omega) (by omega) ⟨rfl, z, rfl, Or.inl ⟨c_1, c_7, hz⟩⟩
    · refine v_bipush C (v := (-3)) d_Md_cached_10 (by decide) ?_
      refine v_goto C 20 d_Md_cached_12 (by decide) ?_
      exact v_iret hQ C rfl d_Md_cached_20 (by omega) (by omega) ⟨rfl, -3, rfl, Or.inr ⟨Or.inr c_7, rfl⟩⟩
def ly (u : Int32) : Nat := if u = 0 then 1 else 0
set_option maxHeartbeats 4000000 in
set_option maxRecDepth 100000 in
theorem ct_Md_waiting {D : va_G} {l : Launch} {cI cZ cR cM : ClassId} {M : Mem} {ad : Nat → Nat} {G : G2} (h : R2 cI cZ M ad G) (u : Int32) : Ct TT D cls (tyL cI cZ cR cM) l y_Md_waiting b_Md_waiting 2 (some .int) 0 0 0 0 [.ref (ad 0), .int u] M (fun rv M' => M' = M ∧ rv = some (.int (G.T 16 (ly u)))) := by
  refine ct_of "BlockTargetSessionModel" rfl (by decide) (Nat.le_of_ble_eq_true rfl) ?_
  intro Z hl hD hnm hQ C
  subst hl
  subst hD
  show V cls 2 (rmOf 0 0 0 0) Z 0 [(0, .ref (ad 0)), (1, .int u)] [] M 0 0
  refine v_aload_n C (i := 0) d_Md_waiting_0 rfl rfl ?_
  refine v_get C (v := .ref (ad 16)) in_Md h.o cl_Md 19 (by decide) w_390 rfl rfl d_Md_waiting_1 ?_
  refine v_iload_n C (i := 1) d_Md_waiting_4 rfl rfl ?_
  refine v_if_eq C 12 d_Md_waiting_5 (by decide) (fun c_5 => ?_) (fun c_5 => ?_)
  · refine v_iconst C (v := 1) d_Md_waiting_12 (by decide) ?_
    refine v_iald C (N := 2) (f := G.T 16) 0 h.hd rfl (pk_in 1 2 (by decide) (by decide)) d_Md_waiting_13 ?_
    refine V.eqst (st' := [.int (G.T 16 1)]) (by rw [show Int32.toNatClampNeg 1 = 1 from pk_cl _ (hx := by decide)]) ?_
    exact v_iret hQ C rfl d_Md_waiting_14 (by omega) (by omega) ⟨rfl, by rw [ly, if_pos c_5]⟩
  · refine v_iconst C (v := 0) d_Md_waiting_8 (by decide) ?_
    refine v_goto C 13 d_Md_waiting_9 (by decide) ?_
    refine v_iald C (N := 2) (f := G.T 16) 0 h.hd rfl (pk_in 0 2 (by decide) (by decide)) d_Md_waiting_13 ?_
    refine V.eqst (st' := [.int (G.T 16 0)]) (by rw [show Int32.toNatClampNeg 0 = 0 from pk_cl _ (hx := by decide)]) ?_
    exact v_iret hQ C rfl d_Md_waiting_14 (by omega) (by omega) ⟨rfl, by rw [ly, if_neg c_5]⟩
set_option maxHeartbeats 4000000 in
set_option maxRecDepth 100000 in
theorem ct_Md_damage0 {D : va_G} {l : Launch} {cI cZ cR cM : ClassId} {M : Mem} {ad : Nat → Nat} {G : G2} (h : R2 cI cZ M ad G) (u y : Int32) (hu : ¬ u = 0) (sz : Nat) (hsz : sz < 60) (hs : G.T 16 0 = nI sz) : Ct TT D cls (tyL cI cZ cR cM) l y_Md_damage b_Md_damage 4 (some .int) 0 0 0 0 [.ref (ad 0), .int u, .int y] M (fun rv M' => ((y < 0 ∨ nI sz ≤ y) ∧ rv = some (.int (-3)) ∧ R2 cI cZ M' ad G) ∨ ∃ j, j < sz ∧ y = nI j ∧ rv = some (.int 0) ∧ R2 cI cZ M' ad (G.sT 15 (upd (G.T 15) (0 + j) 1))) := by
  refine ct_of "BlockTargetSessionModel" rfl (by decide) (Nat.le_of_ble_eq_true rfl) ?_
  intro Z hl hD hnm hQ C
  subst hl
  subst hD
  show V cls 4 (rmOf 0 0 0 0) Z 0 [(0, .ref (ad 0)), (1, .int u), (2, .int y)] [] M 0 0
  refine v_iload_n C (i := 1) d_Md_damage_0 rfl rfl ?_
  refine v_if_eq C 8 d_Md_damage_1 (by decide) (fun c_1 => absurd c_1 (hu)) (fun c_1 => ?_)
  refine v_iconst C (v := 0) d_Md_damage_4 (by decide) ?_
  refine v_goto C 9 d_Md_damage_5 (by decide) ?_
  refine v_istore_n C (i := 3) (lv' := [(3, .int 0), (0, .ref (ad 0)), (1, .int u), (2, .int y)]) d_Md_damage_9 rfl (by decide) rfl ?_
  refine v_iload_n C (i := 2) d_Md_damage_10 rfl rfl ?_
  refine v_if_lt C 24 d_Md_damage_11 (by decide) (fun c_11 => ?_) (fun c_11 => ?_)
  · refine v_bipush C (v := (-3)) d_Md_damage_24 (by decide) ?_
    exact v_iret hQ C rfl d_Md_damage_26 (by omega) (by omega) (Or.inl ⟨Or.inl c_11, rfl, h⟩)
  · refine v_iload_n C (i := 2) d_Md_damage_14 rfl rfl ?_
    refine v_aload_n C (i := 0) d_Md_damage_15 rfl rfl ?_
    refine v_get C (v := .ref (ad 16)) in_Md h.o cl_Md 19 (by decide) w_390 rfl rfl d_Md_damage_16 ?_
    refine v_iload_n C (i := 3) d_Md_damage_19 rfl rfl ?_
    refine v_iald C (N := 2) (f := G.T 16) 0 h.hd rfl (pk_in 0 2 (by decide) (by decide)) d_Md_damage_20 ?_
    refine V.eqst (st' := [.int (G.T 16 0), .int y]) (by rw [show Int32.toNatClampNeg 0 = 0 from pk_cl _ (hx := by decide)]) ?_
    refine V.eqst (st' := [.int (nI sz), .int y]) (by rw [hs]) ?_
    refine v_icmp_lt C 27 d_Md_damage_21 (by decide) (fun c_21 => ?_) (fun c_21 => ?_)
    · obtain ⟨j, hj, rfl⟩ : ∃ j : Nat, j < sz ∧ y = nI j := by
        rcases pk_ix y (n := sz) (by omega) with z | z | z
        · exact absurd z c_11
        · exact absurd z (Int32.not_le.mpr c_21)
        · exact z
      refine v_aload_n C (i := 0) d_Md_damage_27 rfl rfl ?_
      refine v_get C (v := .ref (ad 15)) in_Md h.o cl_Md 18 (by decide) w_389 rfl rfl d_Md_damage_28 ?_
      refine v_iload_n C (i := 3) d_Md_damage_31 rfl rfl ?_
      refine v_bipush C (v := 64) d_Md_damage_32 (by decide) ?_
      refine v_imul C d_Md_damage_34 ?_
      refine V.eqst (st' := [.int (nI 0), .ref (ad 15)]) (by rw [show (0 : Int32) * 64 = nI 0 from by decide]) ?_
      refine v_iload_n C (i := 2) d_Md_damage_35 rfl rfl ?_
      refine v_iadd C d_Md_damage_36 ?_
      refine V.eqst (st' := [.int (nI (0 + j)), .ref (ad 15)]) (by rw [nI_add]) ?_
      refine v_iconst C (v := 1) d_Md_damage_37 (by decide) ?_
      refine v_zast C (N := 128) (f := G.T 15) 1 h.z rfl (pk_in (0 + j) 128 (by omega)) (y := 1) rfl d_Md_damage_38 ?_
      rw [show Int32.toNatClampNeg (nI (0 + j)) = 0 + j from pk_cl _ (hx := rfl)]
      have h : R2 cI cZ (mset M (ad 15) (aI cZ 128 (upd (G.T 15) (0 + j) 1))) ad (G.sT 15 (upd (G.T 15) (0 + j) 1)) := h.pa 15 (by decide) (by decide) (upd (G.T 15) (0 + j) 1)
      revert h
      generalize mset M (ad 15) (aI cZ 128 (upd (G.T 15) (0 + j) 1)) = M
      intro h
      refine v_iconst C (v := 0) d_Md_damage_39 (by decide) ?_
      exact v_iret hQ C rfl d_Md_damage_40 (by omega) (by omega) (Or.inr ⟨j, hj, rfl, rfl, h⟩)
    · refine v_bipush C (v := (-3)) d_Md_damage_24 (by decide) ?_
      exact v_iret hQ C rfl d_Md_damage_26 (by omega) (by omega) (Or.inl ⟨Or.inr (Int32.not_lt.mp c_21), rfl, h⟩)
def fldB (G : G2) (k : Nat) (f : Int32) : Int32 := if f = 0 then G.T 10 k else if f = 1 then G.T 11 k else if f = 2 then G.T 12 k else if f = 3 then G.T 14 k else if f = 4 then (if G.T 15 k = 0 then 0 else 1) else -1
set_option maxHeartbeats 4000000 in
set_option maxRecDepth 100000 in
theorem ct_Md_message0 {D : va_G} {l : Launch} {cI cZ cR cM : ClassId} {M : Mem} {ad : Nat → Nat} {G : G2} (h : R2 cI cZ M ad G) (u y f : Int32) (hu : ¬ u = 0) (sz : Nat) (hsz : sz < 60) (hs : G.T 16 0 = nI sz) : Ct TT D cls (tyL cI cZ cR cM) l y_Md_message b_Md_message 6 (some .int) 0 0 0 0 [.ref (ad 0), .int u, .int y, .int f] M (fun rv M' => M' = M ∧ (((y < 0 ∨ nI sz ≤ y) ∧ rv = some (.int (-1))) ∨ ∃ j, j < sz ∧ y = nI j ∧ rv = some (.int (fldB G (0 + j) f)))) := by
  refine ct_of "BlockTargetSessionModel" rfl (by decide) (Nat.le_of_ble_eq_true rfl) ?_
  intro Z hl hD hnm hQ C
  subst hl
  subst hD
  show V cls 6 (rmOf 0 0 0 0) Z 0 [(0, .ref (ad 0)), (1, .int u), (2, .int y), (3, .int f)] [] M 0 0
  refine v_iload_n C (i := 1) d_Md_message_0 rfl rfl ?_
  refine v_if_eq C 8 d_Md_message_1 (by decide) (fun c_1 => absurd c_1 (hu)) (fun c_1 => ?_)
  refine v_iconst C (v := 0) d_Md_message_4 (by decide) ?_
  refine v_goto C 9 d_Md_message_5 (by decide) ?_
  refine v_istore C (i := 4) (lv' := [(4, .int 0), (0, .ref (ad 0)), (1, .int u), (2, .int y), (3, .int f)]) d_Md_message_9 (by decide) rfl ?_
  refine v_iload_n C (i := 2) d_Md_message_11 rfl rfl ?_
  refine v_if_lt C 26 d_Md_message_12 (by decide) (fun c_12 => ?_) (fun c_12 => ?_)
  · refine v_iconst C (v := (-1)) d_Md_message_26 (by decide) ?_
    exact v_iret hQ C rfl d_Md_message_27 (by omega) (by omega) ⟨rfl, Or.inl ⟨Or.inl c_12, rfl⟩⟩
  · refine v_iload_n C (i := 2) d_Md_message_15 rfl rfl ?_
    refine v_aload_n C (i := 0) d_Md_message_16 rfl rfl ?_
    refine v_get C (v := .ref (ad 16)) in_Md h.o cl_Md 19 (by decide) w_390 rfl rfl d_Md_message_17 ?_
    refine v_iload C (i := 4) d_Md_message_20 rfl ?_
    refine v_iald C (N := 2) (f := G.T 16) 0 h.hd rfl (pk_in 0 2 (by decide) (by decide)) d_Md_message_22 ?_
    refine V.eqst (st' := [.int (G.T 16 0), .int y]) (by rw [show Int32.toNatClampNeg 0 = 0 from pk_cl _ (hx := by decide)]) ?_
    refine V.eqst (st' := [.int (nI sz), .int y]) (by rw [hs]) ?_
    refine v_icmp_lt C 28 d_Md_message_23 (by decide) (fun c_23 => ?_) (fun c_23 => ?_)
    · obtain ⟨j, hj, rfl⟩ : ∃ j : Nat, j < sz ∧ y = nI j := by
        rcases pk_ix y (n := sz) (by omega) with z | z | z
        · exact absurd z c_12
        · exact absurd z (Int32.not_le.mpr c_23)
        · exact z
      refine v_iload C (i := 4) d_Md_message_28 rfl ?_
      refine v_bipush C (v := 64) d_Md_message_30 (by decide) ?_
      refine v_imul C d_Md_message_32 ?_
      refine V.eqst (st' := [.int (nI 0)]) (by rw [show (0 : Int32) * 64 = nI 0 from by decide]) ?_
      refine v_iload_n C (i := 2) d_Md_message_33 rfl rfl ?_
      refine v_iadd C d_Md_message_34 ?_
      refine V.eqst (st' := [.int (nI (0 + j))]) (by rw [nI_add]) ?_
      refine v_istore C (i := 5) (lv' := [(5, .int (nI (0 + j))), (4, .int 0), (0, .ref (ad 0)), (1, .int u), (2, .int (nI j)), (3, .int f)]) d_Md_message_35 (by decide) rfl ?_
      refine v_iload_n C (i := 3) d_Md_message_37 rfl rfl ?_
      refine v_if_ne C 49 d_Md_message_38 (by decide) (fun c_38 => ?_) (fun c_38 => ?_)
      · refine v_iload_n C (i := 3) d_Md_message_49 rfl rfl ?_
        refine v_iconst C (v := 1) d_Md_message_50 (by decide) ?_
        refine v_icmp_ne C 62 d_Md_message_51 (by decide) (fun c_51 => ?_) (fun c_51 => ?_)
        · refine v_iload_n C (i := 3) d_Md_message_62 rfl rfl ?_
          refine v_iconst C (v := 2) d_Md_message_63 (by decide) ?_
          refine v_icmp_ne C 75 d_Md_message_64 (by decide) (fun c_64 => ?_) (fun c_64 => ?_)
          · refine v_iload_n C (i := 3) d_Md_message_75 rfl rfl ?_
            refine v_iconst C (v := 3) d_Md_message_76 (by decide) ?_
            refine v_icmp_ne C 88 d_Md_message_77 (by decide) (fun c_77 => ?_) (fun c_77 => ?_)
            · refine v_iload_n C (i := 3) d_Md_message_88 rfl rfl ?_
              refine v_iconst C (v := 4) d_Md_message_89 (by decide) ?_
              refine v_icmp_ne C 111 d_Md_message_90 (by decide) (fun c_90 => ?_) (fun c_90 => ?_)
              · refine v_iconst C (v := (-1)) d_Md_message_111 (by decide) ?_
                exact v_iret hQ C rfl d_Md_message_112 (by omega) (by omega) ⟨rfl, Or.inr ⟨j, hj, rfl, by rw [fldB, if_neg c_38, if_neg c_51, if_neg c_64, if_neg c_77, if_neg c_90]⟩⟩
              · refine v_aload_n C (i := 0) d_Md_message_93 rfl rfl ?_
                refine v_get C (v := .ref (ad 15)) in_Md h.o cl_Md 18 (by decide) w_389 rfl rfl d_Md_message_94 ?_
                refine v_iload C (i := 5) d_Md_message_97 rfl ?_
                refine v_zald C (N := 128) (f := G.T 15) 1 h.z rfl (pk_in (0 + j) 128 (by omega)) d_Md_message_99 ?_
                refine V.eqst (st' := [.int (G.T 15 (0 + j))]) (by rw [show Int32.toNatClampNeg (nI (0 + j)) = 0 + j from pk_cl _ (hx := rfl)]) ?_
                refine v_if_eq C 107 d_Md_message_100 (by decide) (fun c_100 => ?_) (fun c_100 => ?_)
                · refine v_iconst C (v := 0) d_Md_message_107 (by decide) ?_
                  refine v_goto C 112 d_Md_message_108 (by decide) ?_
                  exact v_iret hQ C rfl d_Md_message_112 (by omega) (by omega) ⟨rfl, Or.inr ⟨j, hj, rfl, by rw [fldB, if_neg c_38, if_neg c_51, if_neg c_64, if_neg c_77, if_pos c_90, if_pos c_100]⟩⟩
                · refine v_iconst C (v := 1) d_Md_message_103 (by decide) ?_
                  refine v_goto C 112 d_Md_message_104 (by decide) ?_
                  exact v_iret hQ C rfl d_Md_message_112 (by omega) (by omega) ⟨rfl, Or.inr ⟨j, hj, rfl, by rw [fldB, if_neg c_38, if_neg c_51, if_neg c_64, if_neg c_77, if_pos c_90, if_neg c_100]⟩⟩
            · refine v_aload_n C (i := 0) d_Md_message_80 rfl rfl ?_
              refine v_get C (v := .ref (ad 14)) in_Md h.o cl_Md 17 (by decide) w_388 rfl rfl d_Md_message_81 ?_
              refine v_iload C (i := 5) d_Md_message_84 rfl ?_
              refine v_iald C (N := 128) (f := G.T 14) 0 (h.a 14 (by decide) (by decide)) rfl (pk_in (0 + j) 128 (by omega)) d_Md_message_86 ?_
              refine V.eqst (st' := [.int (G.T 14 (0 + j))]) (by rw [show Int32.toNatClampNeg (nI (0 + j)) = 0 + j from pk_cl _ (hx := rfl)]) ?_
              exact v_iret hQ C rfl d_Md_message_87 (by omega) (by omega) ⟨rfl, Or.inr ⟨j, hj, rfl, by rw [fldB, if_neg c_38, if_neg c_51, if_neg c_64, if_pos c_77]⟩⟩
          · refine v_aload_n C (i := 0) d_Md_message_67 rfl rfl ?_
            refine v_get C (v := .ref (ad 12)) in_Md h.o cl_Md 15 (by decide) w_386 rfl rfl d_Md_message_68 ?_
            refine v_iload C (i := 5) d_Md_message_71 rfl ?_
            refine v_iald C (N := 128) (f := G.T 12) 0 (h.a 12 (by decide) (by decide)) rfl (pk_in (0 + j) 128 (by omega)) d_Md_message_73 ?_
            refine V.eqst (st' := [.int (G.T 12 (0 + j))]) (by rw [show Int32.toNatClampNeg (nI (0 + j)) = 0 + j from pk_cl _ (hx := rfl)]) ?_
            exact v_iret hQ C rfl d_Md_message_74 (by omega) (by omega) ⟨rfl, Or.inr ⟨j, hj, rfl, by rw [fldB, if_neg c_38, if_neg c_51, if_pos c_64]⟩⟩
        · refine v_aload_n C (i := 0) d_Md_message_54 rfl rfl ?_
          refine v_get C (v := .ref (ad 11)) in_Md h.o cl_Md 14 (by decide) w_385 rfl rfl d_Md_message_55 ?_
          refine v_iload C (i := 5) d_Md_message_58 rfl ?_
          refine v_iald C (N := 128) (f := G.T 11) 0 (h.a 11 (by decide) (by decide)) rfl (pk_in (0 + j) 128 (by omega)) d_Md_message_60 ?_
          refine V.eqst (st' := [.int (G.T 11 (0 + j))]) (by rw [show Int32.toNatClampNeg (nI (0 + j)) = 0 + j from pk_cl _ (hx := rfl)]) ?_
          exact v_iret hQ C rfl d_Md_message_61 (by omega) (by omega) ⟨rfl, Or.inr ⟨j, hj, rfl, by rw [fldB, if_neg c_38, if_pos c_51]⟩⟩
      · refine v_aload_n C (i := 0) d_Md_message_41 rfl rfl ?_
        refine v_get C (v := .ref (ad 10)) in_Md h.o cl_Md 13 (by decide) w_384 rfl rfl d_Md_message_42 ?_
        refine v_iload C (i := 5) d_Md_message_45 rfl ?_
        refine v_iald C (N := 128) (f := G.T 10) 0 (h.a 10 (by decide) (by decide)) rfl (pk_in (0 + j) 128 (by omega)) d_Md_message_47 ?_
        refine V.eqst (st' := [.int (G.T 10 (0 + j))]) (by rw [show Int32.toNatClampNeg (nI (0 + j)) = 0 + j from pk_cl _ (hx := rfl)]) ?_
        exact v_iret hQ C rfl d_Md_message_48 (by omega) (by omega) ⟨rfl, Or.inr ⟨j, hj, rfl, by rw [fldB, if_pos c_38]⟩⟩
    · refine v_iconst C (v := (-1)) d_Md_message_26 (by decide) ?_
      exact v_iret hQ C rfl d_Md_message_27 (by omega) (by omega) ⟨rfl, Or.inl ⟨Or.inr (Int32.not_lt.mp c_23), rfl⟩⟩
set_option maxHeartbeats 4000000 in
set_option maxRecDepth 100000 in
theorem ct_Md_damage1 {D : va_G} {l : Launch} {cI cZ cR cM : ClassId} {M : Mem} {ad : Nat → Nat} {G : G2} (h : R2 cI cZ M ad G) (u y : Int32) (hu : u = 0) (sz : Nat) (hsz : sz < 60) (hs : G.T 16 1 = nI sz) : Ct TT D cls (tyL cI cZ cR cM) l y_Md_damage b_Md_damage 4 (some .int) 0 0 0 0 [.ref (ad 0), .int u, .int y] M (fun rv M' => ((y < 0 ∨ nI sz ≤ y) ∧ rv = some (.int (-3)) ∧ R2 cI cZ M' ad G) ∨ ∃ j, j < sz ∧ y = nI j ∧ rv = some (.int 0) ∧ R2 cI cZ M' ad (G.sT 15 (upd (G.T 15) (64 + j) 1))) := by
  refine ct_of "BlockTargetSessionModel" rfl (by decide) (Nat.le_of_ble_eq_true rfl) ?_
  intro Z hl hD hnm hQ C
  subst hl
  subst hD
  show V cls 4 (rmOf 0 0 0 0) Z 0 [(0, .ref (ad 0)), (1, .int u), (2, .int y)] [] M 0 0
  refine v_iload_n C (i := 1) d_Md_damage_0 rfl rfl ?_
  refine v_if_eq C 8 d_Md_damage_1 (by decide) (fun c_1 => ?_) (fun c_1 => absurd (hu) c_1)
  refine v_iconst C (v := 1) d_Md_damage_8 (by decide) ?_
  refine v_istore_n C (i := 3) (lv' := [(3, .int 1), (0, .ref (ad 0)), (1, .int u), (2, .int y)]) d_Md_damage_9 rfl (by decide) rfl ?_
  refine v_iload_n C (i := 2) d_Md_damage_10 rfl rfl ?_
  refine v_if_lt C 24 d_Md_damage_11 (by decide) (fun c_11 => ?_) (fun c_11 => ?_)
  · refine v_bipush C (v := (-3)) d_Md_damage_24 (by decide) ?_
    exact v_iret hQ C rfl d_Md_damage_26 (by omega) (by omega) (Or.inl ⟨Or.inl c_11, rfl, h⟩)
  · refine v_iload_n C (i := 2) d_Md_damage_14 rfl rfl ?_
    refine v_aload_n C (i := 0) d_Md_damage_15 rfl rfl ?_
    refine v_get C (v := .ref (ad 16)) in_Md h.o cl_Md 19 (by decide) w_390 rfl rfl d_Md_damage_16 ?_
    refine v_iload_n C (i := 3) d_Md_damage_19 rfl rfl ?_
    refine v_iald C (N := 2) (f := G.T 16) 0 h.hd rfl (pk_in 1 2 (by decide) (by decide)) d_Md_damage_20 ?_
    refine V.eqst (st' := [.int (G.T 16 1), .int y]) (by rw [show Int32.toNatClampNeg 1 = 1 from pk_cl _ (hx := by decide)]) ?_
    refine V.eqst (st' := [.int (nI sz), .int y]) (by rw [hs]) ?_
    refine v_icmp_lt C 27 d_Md_damage_21 (by decide) (fun c_21 => ?_) (fun c_21 => ?_)
    · obtain ⟨j, hj, rfl⟩ : ∃ j : Nat, j < sz ∧ y = nI j := by
        rcases pk_ix y (n := sz) (by omega) with z | z | z
        · exact absurd z c_11
        · exact absurd z (Int32.not_le.mpr c_21)
        · exact z
      refine v_aload_n C (i := 0) d_Md_damage_27 rfl rfl ?_
      refine v_get C (v := .ref (ad 15)) in_Md h.o cl_Md 18 (by decide) w_389 rfl rfl d_Md_damage_28 ?_
      refine v_iload_n C (i := 3) d_Md_damage_31 rfl rfl ?_
      refine v_bipush C (v := 64) d_Md_damage_32 (by decide) ?_
      refine v_imul C d_Md_damage_34 ?_
      refine V.eqst (st' := [.int (nI 64), .ref (ad 15)]) (by rw [show (1 : Int32) * 64 = nI 64 from by decide]) ?_
      refine v_iload_n C (i := 2) d_Md_damage_35 rfl rfl ?_
      refine v_iadd C d_Md_damage_36 ?_
      refine V.eqst (st' := [.int (nI (64 + j)), .ref (ad 15)]) (by rw [nI_add]) ?_
      refine v_iconst C (v := 1) d_Md_damage_37 (by decide) ?_
      refine v_zast C (N := 128) (f := G.T 15) 1 h.z rfl (pk_in (64 + j) 128 (by omega)) (y := 1) rfl d_Md_damage_38 ?_
      rw [show Int32.toNatClampNeg (nI (64 + j)) = 64 + j from pk_cl _ (hx := rfl)]
      have h : R2 cI cZ (mset M (ad 15) (aI cZ 128 (upd (G.T 15) (64 + j) 1))) ad (G.sT 15 (upd (G.T 15) (64 + j) 1)) := h.pa 15 (by decide) (by decide) (upd (G.T 15) (64 + j) 1)
      revert h
      generalize mset M (ad 15) (aI cZ 128 (upd (G.T 15) (64 + j) 1)) = M
      intro h
      refine v_iconst C (v := 0) d_Md_damage_39 (by decide) ?_
      exact v_iret hQ C rfl d_Md_damage_40 (by omega) (by omega) (Or.inr ⟨j, hj, rfl, rfl, h⟩)
    · refine v_bipush C (v := (-3)) d_Md_damage_24 (by decide) ?_
      exact v_iret hQ C rfl d_Md_damage_26 (by omega) (by omega) (Or.inl ⟨Or.inr (Int32.not_lt.mp c_21), rfl, h⟩)
set_option maxHeartbeats 4000000 in
set_option maxRecDepth 100000 in
theorem ct_Md_message1 {D : va_G} {l : Launch} {cI cZ cR cM : ClassId} {M : Mem} {ad : Nat → Nat} {G : G2} (h : R2 cI cZ M ad G) (u y f : Int32) (hu : u = 0) (sz : Nat) (hsz : sz < 60) (hs : G.T 16 1 = nI sz) : Ct TT D cls (tyL cI cZ cR cM) l y_Md_message b_Md_message 6 (some .int) 0 0 0 0 [.ref (ad 0), .int u, .int y, .int f] M (fun rv M' => M' = M ∧ (((y < 0 ∨ nI sz ≤ y) ∧ rv = some (.int (-1))) ∨ ∃ j, j < sz ∧ y = nI j ∧ rv = some (.int (fldB G (64 + j) f)))) := by
  refine ct_of "BlockTargetSessionModel" rfl (by decide) (Nat.le_of_ble_eq_true rfl) ?_
  intro Z hl hD hnm hQ C
  subst hl
  subst hD
  show V cls 6 (rmOf 0 0 0 0) Z 0 [(0, .ref (ad 0)), (1, .int u), (2, .int y), (3, .int f)] [] M 0 0
  refine v_iload_n C (i := 1) d_Md_message_0 rfl rfl ?_
  refine v_if_eq C 8 d_Md_message_1 (by decide) (fun c_1 => ?_) (fun c_1 => absurd (hu) c_1)
  refine v_iconst C (v := 1) d_Md_message_8 (by decide) ?_
  refine v_istore C (i := 4) (lv' := [(4, .int 1), (0, .ref (ad 0)), (1, .int u), (2, .int y), (3, .int f)]) d_Md_message_9 (by decide) rfl ?_
  refine v_iload_n C (i := 2) d_Md_message_11 rfl rfl ?_
  refine v_if_lt C 26 d_Md_message_12 (by decide) (fun c_12 => ?_) (fun c_12 => ?_)
  · refine v_iconst C (v := (-1)) d_Md_message_26 (by decide) ?_
    exact v_iret hQ C rfl d_Md_message_27 (by omega) (by omega) ⟨rfl, Or.inl ⟨Or.inl c_12, rfl⟩⟩
  · refine v_iload_n C (i := 2) d_Md_message_15 rfl rfl ?_
    refine v_aload_n C (i := 0) d_Md_message_16 rfl rfl ?_
    refine v_get C (v := .ref (ad 16)) in_Md h.o cl_Md 19 (by decide) w_390 rfl rfl d_Md_message_17 ?_
    refine v_iload C (i := 4) d_Md_message_20 rfl ?_
    refine v_iald C (N := 2) (f := G.T 16) 0 h.hd rfl (pk_in 1 2 (by decide) (by decide)) d_Md_message_22 ?_
    refine V.eqst (st' := [.int (G.T 16 1), .int y]) (by rw [show Int32.toNatClampNeg 1 = 1 from pk_cl _ (hx := by decide)]) ?_
    refine V.eqst (st' := [.int (nI sz), .int y]) (by rw [hs]) ?_
    refine v_icmp_lt C 28 d_Md_message_23 (by decide) (fun c_23 => ?_) (fun c_23 => ?_)
    · obtain ⟨j, hj, rfl⟩ : ∃ j : Nat, j < sz ∧ y = nI j := by
        rcases pk_ix y (n := sz) (by omega) with z | z | z
        · exact absurd z c_12
        · exact absurd z (Int32.not_le.mpr c_23)
        · exact z
      refine v_iload C (i := 4) d_Md_message_28 rfl ?_
      refine v_bipush C (v := 64) d_Md_message_30 (by decide) ?_
      refine v_imul C d_Md_message_32 ?_
      refine V.eqst (st' := [.int (nI 64)]) (by rw [show (1 : Int32) * 64 = nI 64 from by decide]) ?_
      refine v_iload_n C (i := 2) d_Md_message_33 rfl rfl ?_
      refine v_iadd C d_Md_message_34 ?_
      refine V.eqst (st' := [.int (nI (64 + j))]) (by rw [nI_add]) ?_
      refine v_istore C (i := 5) (lv' := [(5, .int (nI (64 + j))), (4, .int 1), (0, .ref (ad 0)), (1, .int u), (2, .int (nI j)), (3, .int f)]) d_Md_message_35 (by decide) rfl ?_
      refine v_iload_n C (i := 3) d_Md_message_37 rfl rfl ?_
      refine v_if_ne C 49 d_Md_message_38 (by decide) (fun c_38 => ?_) (fun c_38 => ?_)
      · refine v_iload_n C (i := 3) d_Md_message_49 rfl rfl ?_
        refine v_iconst C (v := 1) d_Md_message_50 (by decide) ?_
        refine v_icmp_ne C 62 d_Md_message_51 (by decide) (fun c_51 => ?_) (fun c_51 => ?_)
        · refine v_iload_n C (i := 3) d_Md_message_62 rfl rfl ?_
          refine v_iconst C (v := 2) d_Md_message_63 (by decide) ?_
          refine v_icmp_ne C 75 d_Md_message_64 (by decide) (fun c_64 => ?_) (fun c_64 => ?_)
          · refine v_iload_n C (i := 3) d_Md_message_75 rfl rfl ?_
            refine v_iconst C (v := 3) d_Md_message_76 (by decide) ?_
            refine v_icmp_ne C 88 d_Md_message_77 (by decide) (fun c_77 => ?_) (fun c_77 => ?_)
            · refine v_iload_n C (i := 3) d_Md_message_88 rfl rfl ?_
              refine v_iconst C (v := 4) d_Md_message_89 (by decide) ?_
              refine v_icmp_ne C 111 d_Md_message_90 (by decide) (fun c_90 => ?_) (fun c_90 => ?_)
              · refine v_iconst C (v := (-1)) d_Md_message_111 (by decide) ?_
                exact v_iret hQ C rfl d_Md_message_112 (by omega) (by omega) ⟨rfl, Or.inr ⟨j, hj, rfl, by rw [fldB, if_neg c_38, if_neg c_51, if_neg c_64, if_neg c_77, if_neg c_90]⟩⟩
              · refine v_aload_n C (i := 0) d_Md_message_93 rfl rfl ?_
                refine v_get C (v := .ref (ad 15)) in_Md h.o cl_Md 18 (by decide) w_389 rfl rfl d_Md_message_94 ?_
                refine v_iload C (i := 5) d_Md_message_97 rfl ?_
                refine v_zald C (N := 128) (f := G.T 15) 1 h.z rfl (pk_in (64 + j) 128 (by omega)) d_Md_message_99 ?_
                refine V.eqst (st' := [.int (G.T 15 (64 + j))]) (by rw [show Int32.toNatClampNeg (nI (64 + j)) = 64 + j from pk_cl _ (hx := rfl)]) ?_
                refine v_if_eq C 107 d_Md_message_100 (by decide) (fun c_100 => ?_) (fun c_100 => ?_)
                · refine v_iconst C (v := 0) d_Md_message_107 (by decide) ?_
                  refine v_goto C 112 d_Md_message_108 (by decide) ?_
                  exact v_iret hQ C rfl d_Md_message_112 (by omega) (by omega) ⟨rfl, Or.inr ⟨j, hj, rfl, by rw [fldB, if_neg c_38, if_neg c_51, if_neg c_64, if_neg c_77, if_pos c_90, if_pos c_100]⟩⟩
                · refine v_iconst C (v := 1) d_Md_message_103 (by decide) ?_
                  refine v_goto C 112 d_Md_message_104 (by decide) ?_
                  exact v_iret hQ C rfl d_Md_message_112 (by omega) (by omega) ⟨rfl, Or.inr ⟨j, hj, rfl, by rw [fldB, if_neg c_38, if_neg c_51, if_neg c_64, if_neg c_77, if_pos c_90, if_neg c_100]⟩⟩
            · refine v_aload_n C (i := 0) d_Md_message_80 rfl rfl ?_
              refine v_get C (v := .ref (ad 14)) in_Md h.o cl_Md 17 (by decide) w_388 rfl rfl d_Md_message_81 ?_
              refine v_iload C (i := 5) d_Md_message_84 rfl ?_
              refine v_iald C (N := 128) (f := G.T 14) 0 (h.a 14 (by decide) (by decide)) rfl (pk_in (64 + j) 128 (by omega)) d_Md_message_86 ?_
              refine V.eqst (st' := [.int (G.T 14 (64 + j))]) (by rw [show Int32.toNatClampNeg (nI (64 + j)) = 64 + j from pk_cl _ (hx := rfl)]) ?_
              exact v_iret hQ C rfl d_Md_message_87 (by omega) (by omega) ⟨rfl, Or.inr ⟨j, hj, rfl, by rw [fldB, if_neg c_38, if_neg c_51, if_neg c_64, if_pos c_77]⟩⟩
          · refine v_aload_n C (i := 0) d_Md_message_67 rfl rfl ?_
            refine v_get C (v := .ref (ad 12)) in_Md h.o cl_Md 15 (by decide) w_386 rfl rfl d_Md_message_68 ?_
            refine v_iload C (i := 5) d_Md_message_71 rfl ?_
            refine v_iald C (N := 128) (f := G.T 12) 0 (h.a 12 (by decide) (by decide)) rfl (pk_in (64 + j) 128 (by omega)) d_Md_message_73 ?_
            refine V.eqst (st' := [.int (G.T 12 (64 + j))]) (by rw [show Int32.toNatClampNeg (nI (64 + j)) = 64 + j from pk_cl _ (hx := rfl)]) ?_
            exact v_iret hQ C rfl d_Md_message_74 (by omega) (by omega) ⟨rfl, Or.inr ⟨j, hj, rfl, by rw [fldB, if_neg c_38, if_neg c_51, if_pos c_64]⟩⟩
        · refine v_aload_n C (i := 0) d_Md_message_54 rfl rfl ?_
          refine v_get C (v := .ref (ad 11)) in_Md h.o cl_Md 14 (by decide) w_385 rfl rfl d_Md_message_55 ?_
          refine v_iload C (i := 5) d_Md_message_58 rfl ?_
          refine v_iald C (N := 128) (f := G.T 11) 0 (h.a 11 (by decide) (by decide)) rfl (pk_in (64 + j) 128 (by omega)) d_Md_message_60 ?_
          refine V.eqst (st' := [.int (G.T 11 (64 + j))]) (by rw [show Int32.toNatClampNeg (nI (64 + j)) = 64 + j from pk_cl _ (hx := rfl)]) ?_
          exact v_iret hQ C rfl d_Md_message_61 (by omega) (by omega) ⟨rfl, Or.inr ⟨j, hj, rfl, by rw [fldB, if_neg c_38, if_pos c_51]⟩⟩
      · refine v_aload_n C (i := 0) d_Md_message_41 rfl rfl ?_
        refine v_get C (v := .ref (ad 10)) in_Md h.o cl_Md 13 (by decide) w_384 rfl rfl d_Md_message_42 ?_
        refine v_iload C (i := 5) d_Md_message_45 rfl ?_
        refine v_iald C (N := 128) (f := G.T 10) 0 (h.a 10 (by decide) (by decide)) rfl (pk_in (64 + j) 128 (by omega)) d_Md_message_47 ?_
        refine V.eqst (st' := [.int (G.T 10 (64 + j))]) (by rw [show Int32.toNatClampNeg (nI (64 + j)) = 64 + j from pk_cl _ (hx := rfl)]) ?_
        exact v_iret hQ C rfl d_Md_message_48 (by omega) (by omega) ⟨rfl, Or.inr ⟨j, hj, rfl, by rw [fldB, if_pos c_38]⟩⟩
    · refine v_iconst C (v := (-1)) d_Md_message_26 (by decide) ?_
      exact v_iret hQ C rfl d_Md_message_27 (by omega) (by omega) ⟨rfl, Or.inl ⟨Or.inr (Int32.not_lt.mp c_23), rfl⟩⟩
def G2.countA (G : G2) (n : Nat) (x : Int32) : Int32 := if x = 0 then nI n else if ¬ x < 1 ∧ ¬ 3 < x then nI (cnt (G.T 8) (x - 1) n) else if x = 4 then nI (cpos (G.T 3) 16) else if x = 8 then G.I 8 else if x < 5 ∨ ¬ x ≤ 7 then -1 else if G.I 4 = 0 then 0 else if x = 5 then G.I 5 else if x = 6 then G.I 6 else G.I 7
set_option maxHeartbeats 4000000 in
set_option maxRecDepth 100000 in
theorem ct_Md_count {D : va_G} {l : Launch} {cI cZ cR cM : ClassId} {M : Mem} {ad : Nat → Nat} {G : G2} (h : R2 cI cZ M ad G) (n : Nat) (hn : G.I 3 = nI n) (hn120 : n ≤ 120) (x : Int32) : Ct TT D cls (tyL cI cZ cR cM) l y_Md_count b_Md_count 2 (some .int) 1 23 0 0 [.ref (ad 0), .int x] M (fun rv M' => M' = M ∧ rv = some (.int (G.countA n x))) := by
  refine ct_of "BlockTargetSessionModel" rfl (by decide) (Nat.le_of_ble_eq_true rfl) ?_
  intro Z hl hD hnm hQ C
  subst hl
  subst hD
  show V cls 2 (rmOf 1 23 0 0) Z 0 [(0, .ref (ad 0)), (1, .int x)] [] M 0 0
  refine v_iload_n C (i := 1) d_Md_count_0 rfl rfl ?_
  refine v_if_ne C 9 d_Md_count_1 (by decide) (fun c_1 => ?_) (fun c_1 => ?_)
  · refine v_iload_n C (i := 1) d_Md_count_9 rfl rfl ?_
    refine v_iconst C (v := 1) d_Md_count_10 (by decide) ?_
    refine v_icmp_lt C 27 d_Md_count_11 (by decide) (fun c_11 => ?_) (fun c_11 => ?_)
    · refine v_iload_n C (i := 1) d_Md_count_27 rfl rfl ?_
      refine v_iconst C (v := 4) d_Md_count_28 (by decide) ?_
      refine v_icmp_ne C 37 d_Md_count_29 (by decide) (fun c_29 => ?_) (fun c_29 => ?_)
      · refine v_iload_n C (i := 1) d_Md_count_37 rfl rfl ?_
        refine v_bipush C (v := 8) d_Md_count_38 (by decide) ?_
        refine v_icmp_ne C 48 d_Md_count_40 (by decide) (fun c_40 => ?_) (fun c_40 => ?_)
        · refine v_iload_n C (i := 1) d_Md_count_48 rfl rfl ?_
          refine v_iconst C (v := 5) d_Md_count_49 (by decide) ?_
          refine v_icmp_lt C 59 d_Md_count_50 (by decide) (fun c_50 => ?_) (fun c_50 => ?_)
          · refine v_iconst C (v := (-1)) d_Md_count_59 (by decide) ?_
            exact v_iret hQ C rfl d_Md_count_60 (by omega) (by omega) ⟨rfl, by rw [G2.countA, if_neg c_1, if_neg (fun z => z.1 c_11), if_neg c_29, if_neg c_40, if_pos (Or.inl c_50)]⟩
          · refine v_iload_n C (i := 1) d_Md_count_53 rfl rfl ?_
            refine v_bipush C (v := 7) d_Md_count_54 (by decide) ?_
            refine v_icmp_le C 61 d_Md_count_56 (by decide) (fun c_56 => ?_) (fun c_56 => ?_)
            · refine v_aload_n C (i := 0) d_Md_count_61 rfl rfl ?_
              refine v_get C (v := .int (G.I 4)) in_Md h.o cl_Md 20 (by decide) w_391 rfl rfl d_Md_count_62 ?_
              refine v_if_ne C 70 d_Md_count_65 (by decide) (fun c_65 => ?_) (fun c_65 => ?_)
              · refine v_iload_n C (i := 1) d_Md_count_70 rfl rfl ?_
                refine v_iconst C (v := 5) d_Md_count_71 (by decide) ?_
                refine v_icmp_ne C 82 d_Md_count_72 (by decide) (fun c_72 => ?_) (fun c_72 => ?_)
                · refine v_iload_n C (i := 1) d_Md_count_82 rfl rfl ?_
                  refine v_bipush C (v := 6) d_Md_count_83 (by decide) ?_
                  refine v_icmp_ne C 95 d_Md_count_85 (by decide) (fun c_85 => ?_) (fun c_85 => ?_)
                  · refine v_aload_n C (i := 0) d_Md_count_95 rfl rfl ?_
                    refine v_get C (v := .int (G.I 7)) in_Md h.o cl_Md 23 (by decide) w_394 rfl rfl d_Md_count_96 ?_
                    exact v_iret hQ C rfl d_Md_count_99 (by omega) (by omega) ⟨rfl, by rw [G2.countA, if_neg c_1, if_neg (fun z => z.1 c_11), if_neg c_29, if_neg c_40, if_neg (fun z => z.elim c_50 (fun y => y c_56)), if_neg c_65, if_neg c_72, if_neg c_85]⟩
                  · refine v_aload_n C (i := 0) d_Md_count_88 rfl rfl ?_
                    refine v_get C (v := .int (G.I 6)) in_Md h.o cl_Md 22 (by decide) w_393 rfl rfl d_Md_count_89 ?_
                    refine v_goto C 99 d_Md_count_92 (by decide) ?_
                    exact v_iret hQ C rfl d_Md_count_99 (by omega) (by omega) ⟨rfl, by rw [G2.countA, if_neg c_1, if_neg (fun z => z.1 c_11), if_neg c_29, if_neg c_40, if_neg (fun z => z.elim c_50 (fun y => y c_56)), if_neg c_65, if_neg c_72, if_pos c_85]⟩
                · refine v_aload_n C (i := 0) d_Md_count_75 rfl rfl ?_
                  refine v_get C (v := .int (G.I 5)) in_Md h.o cl_Md 21 (by decide) w_392 rfl rfl d_Md_count_76 ?_
                  refine v_goto C 99 d_Md_count_79 (by decide) ?_
                  exact v_iret hQ C rfl d_Md_count_99 (by omega) (by omega) ⟨rfl, by rw [G2.countA, if_neg c_1, if_neg (fun z => z.1 c_11), if_neg c_29, if_neg c_40, if_neg (fun z => z.elim c_50 (fun y => y c_56)), if_neg c_65, if_pos c_72]⟩
              · refine v_iconst C (v := 0) d_Md_count_68 (by decide) ?_
                exact v_iret hQ C rfl d_Md_count_69 (by omega) (by omega) ⟨rfl, by rw [G2.countA, if_neg c_1, if_neg (fun z => z.1 c_11), if_neg c_29, if_neg c_40, if_neg (fun z => z.elim c_50 (fun y => y c_56)), if_pos c_65]⟩
            · refine v_iconst C (v := (-1)) d_Md_count_59 (by decide) ?_
              exact v_iret hQ C rfl d_Md_count_60 (by omega) (by omega) ⟨rfl, by rw [G2.countA, if_neg c_1, if_neg (fun z => z.1 c_11), if_neg c_29, if_neg c_40, if_pos (Or.inr c_56)]⟩
        · refine v_aload_n C (i := 0) d_Md_count_43 rfl rfl ?_
          refine v_get C (v := .int (G.I 8)) in_Md h.o cl_Md 24 (by decide) w_395 rfl rfl d_Md_count_44 ?_
          exact v_iret hQ C rfl d_Md_count_47 (by omega) (by omega) ⟨rfl, by rw [G2.countA, if_neg c_1, if_neg (fun z => z.1 c_11), if_neg c_29, if_pos c_40]⟩
      · refine v_aload_n C (i := 0) d_Md_count_32 rfl rfl ?_
        refine v_callV C (As := []) (rest := []) h.o cl_Md rfl w_510 wp_25 (ct_Md_size h) (Nat.le_of_ble_eq_true rfl) (Nat.le_of_ble_eq_true rfl) w_511 w_6 hy_Md_size w_508 rfl (Nat.le_of_ble_eq_true rfl) ⟨by decide, by decide⟩ d_Md_count_33 (fun rv M hp => ?_)
        obtain ⟨rfl, rfl⟩ := hp
        refine V.eqst (st' := [.int (nI (cpos (G.T 3) 16))]) rfl (V.cs (k' := 0) (n' := 0) rfl rfl ?_)
        exact v_iret hQ C rfl d_Md_count_36 (by omega) (by omega) ⟨rfl, by rw [G2.countA, if_neg c_1, if_neg (fun z => z.1 c_11), if_pos c_29]⟩
    · refine v_iload_n C (i := 1) d_Md_count_14 rfl rfl ?_
      refine v_iconst C (v := 3) d_Md_count_15 (by decide) ?_
      refine v_icmp_gt C 27 d_Md_count_16 (by decide) (fun c_16 => ?_) (fun c_16 => ?_)
      · refine v_iload_n C (i := 1) d_Md_count_27 rfl rfl ?_
        refine v_iconst C (v := 4) d_Md_count_28 (by decide) ?_
        refine v_icmp_ne C 37 d_Md_count_29 (by decide) (fun c_29 => ?_) (fun c_29 => ?_)
        · refine v_iload_n C (i := 1) d_Md_count_37 rfl rfl ?_
          refine v_bipush C (v := 8) d_Md_count_38 (by decide) ?_
          refine v_icmp_ne C 48 d_Md_count_40 (by decide) (fun c_40 => ?_) (fun c_40 => ?_)
          · refine v_iload_n C (i := 1) d_Md_count_48 rfl rfl ?_
            refine v_iconst C (v := 5) d_Md_count_49 (by decide) ?_
            refine v_icmp_lt C 59 d_Md_count_50 (by decide) (fun c_50 => ?_) (fun c_50 => ?_)
            · refine v_iconst C (v := (-1)) d_Md_count_59 (by decide) ?_
              exact v_iret hQ C rfl d_Md_count_60 (by omega) (by omega) ⟨rfl, by rw [G2.countA, if_neg c_1, if_neg (fun z => z.2 c_16), if_neg c_29, if_neg c_40, if_pos (Or.inl c_50)]⟩
            · refine v_iload_n C (i := 1) d_Md_count_53 rfl rfl ?_
              refine v_bipush C (v := 7) d_Md_count_54 (by decide) ?_
              refine v_icmp_le C 61 d_Md_count_56 (by decide) (fun c_56 => ?_) (fun c_56 => ?_)
              · refine v_aload_n C (i := 0) d_Md_count_61 rfl rfl ?_
                refine v_get C (v := .int (G.I 4)) in_Md h.o cl_Md 20 (by decide) w_391 rfl rfl d_Md_count_62 ?_
                refine v_if_ne C 70 d_Md_count_65 (by decide) (fun c_65 => ?_) (fun c_65 => ?_)
                · refine v_iload_n C (i := 1) d_Md_count_70 rfl rfl ?_
                  refine v_iconst C (v := 5) d_Md_count_71 (by decide) ?_
                  refine v_icmp_ne C 82 d_Md_count_72 (by decide) (fun c_72 => ?_) (fun c_72 => ?_)
                  · refine v_iload_n C (i := 1) d_Md_count_82 rfl rfl ?_
                    refine v_bipush C (v := 6) d_Md_count_83 (by decide) ?_
                    refine v_icmp_ne C 95 d_Md_count_85 (by decide) (fun c_85 => ?_) (fun c_85 => ?_)
                    · refine v_aload_n C (i := 0) d_Md_count_95 rfl rfl ?_
                      refine v_get C (v := .int (G.I 7)) in_Md h.o cl_Md 23 (by decide) w_394 rfl rfl d_Md_count_96 ?_
                      exact v_iret hQ C rfl d_Md_count_99 (by omega) (by omega) ⟨rfl, by rw [G2.countA, if_neg c_1, if_neg (fun z => z.2 c_16), if_neg c_29, if_neg c_40, if_neg (fun z => z.elim c_50 (fun y => y c_56)), if_neg c_65, if_neg c_72, if_neg c_85]⟩
                    · refine v_aload_n C (i := 0) d_Md_count_88 rfl rfl ?_
                      refine v_get C (v := .int (G.I 6)) in_Md h.o cl_Md 22 (by decide) w_393 rfl rfl d_Md_count_89 ?_
                      refine v_goto C 99 d_Md_count_92 (by decide) ?_
                      exact v_iret hQ C rfl d_Md_count_99 (by omega) (by omega) ⟨rfl, by rw [G2.countA, if_neg c_1, if_neg (fun z => z.2 c_16), if_neg c_29, if_neg c_40, if_neg (fun z => z.elim c_50 (fun y => y c_56)), if_neg c_65, if_neg c_72, if_pos c_85]⟩
                  · refine v_aload_n C (i := 0) d_Md_count_75 rfl rfl ?_
                    refine v_get C (v := .int (G.I 5)) in_Md h.o cl_Md 21 (by decide) w_392 rfl rfl d_Md_count_76 ?_
                    refine v_goto C 99 d_Md_count_79 (by decide) ?_
                    exact v_iret hQ C rfl d_Md_count_99 (by omega) (by omega) ⟨rfl, by rw [G2.countA, if_neg c_1, if_neg (fun z => z.2 c_16), if_neg c_29, if_neg c_40, if_neg (fun z => z.elim c_50 (fun y => y c_56)), if_neg c_65, if_pos c_72]⟩
                · refine v_iconst C (v := 0) d_Md_count_68 (by decide) ?_
                  exact v_iret hQ C rfl d_Md_count_69 (by omega) (by omega) ⟨rfl, by rw [G2.countA, if_neg c_1, if_neg (fun z => z.2 c_16), if_neg c_29, if_neg c_40, if_neg (fun z => z.elim c_50 (fun y => y c_56)), if_pos c_65]⟩
              · refine v_iconst C (v := (-1)) d_Md_count_59 (by decide) ?_
                exact v_iret hQ C rfl d_Md_count_60 (by omega) (by omega) ⟨rfl, by rw [G2.countA, if_neg c_1, if_neg (fun z => z.2 c_16), if_neg c_29, if_neg c_40, if_pos (Or.inr c_56)]⟩
          · refine v_aload_n C (i := 0) d_Md_count_43 rfl rfl ?_
            refine v_get C (v := .int (G.I 8)) in_Md h.o cl_Md 24 (by decide) w_395 rfl rfl d_Md_count_44 ?_
            exact v_iret hQ C rfl d_Md_count_47 (by omega) (by omega) ⟨rfl, by rw [G2.countA, if_neg c_1, if_neg (fun z => z.2 c_16), if_neg c_29, if_pos c_40]⟩
        · refine v_aload_n C (i := 0) d_Md_count_32 rfl rfl ?_
          refine v_callV C (As := []) (rest := []) h.o cl_Md rfl w_510 wp_25 (ct_Md_size h) (Nat.le_of_ble_eq_true rfl) (Nat.le_of_ble_eq_true rfl) w_511 w_6 hy_Md_size w_508 rfl (Nat.le_of_ble_eq_true rfl) ⟨by decide, by decide⟩ d_Md_count_33 (fun rv M hp => ?_)
          obtain ⟨rfl, rfl⟩ := hp
          refine V.eqst (st' := [.int (nI (cpos (G.T 3) 16))]) rfl (V.cs (k' := 0) (n' := 0) rfl rfl ?_)
          exact v_iret hQ C rfl d_Md_count_36 (by omega) (by omega) ⟨rfl, by rw [G2.countA, if_neg c_1, if_neg (fun z => z.2 c_16), if_pos c_29]⟩
      · refine v_aload_n C (i := 0) d_Md_count_19 rfl rfl ?_
        refine v_iload_n C (i := 1) d_Md_count_20 rfl rfl ?_
        refine v_iconst C (v := 1) d_Md_count_21 (by decide) ?_
        refine v_isub C d_Md_count_22 ?_
        refine v_callV C (As := [.int (x - 1)]) (rest := []) h.o cl_Md rfl w_482 wp_19 (ct_Md_number h n hn hn120 (x - 1)) (Nat.le_of_ble_eq_true rfl) (Nat.le_of_ble_eq_true rfl) w_483 w_6 hy_Md_number w_480 rfl (Nat.le_of_ble_eq_true rfl) ⟨by decide, by decide⟩ d_Md_count_23 (fun rv M hp => ?_)
        obtain ⟨rfl, rfl⟩ := hp
        refine V.eqst (st' := [.int (nI (cnt (G.T 8) (x - 1) n))]) rfl (V.cs (k' := 0) (n' := 0) rfl rfl ?_)
        exact v_iret hQ C rfl d_Md_count_26 (by omega) (by omega) ⟨rfl, by rw [G2.countA, if_neg c_1, if_pos ⟨c_11, c_16⟩]⟩
  · refine v_aload_n C (i := 0) d_Md_count_4 rfl rfl ?_
    refine v_get C (v := .int (G.I 3)) in_Md h.o cl_Md 12 (by decide) w_383 rfl rfl d_Md_count_5 ?_
    refine V.eqst (st' := [.int (nI n)]) (by rw [hn]) ?_
    exact v_iret hQ C rfl d_Md_count_8 (by omega) (by omega) ⟨rfl, by rw [G2.countA, if_pos c_1]⟩
