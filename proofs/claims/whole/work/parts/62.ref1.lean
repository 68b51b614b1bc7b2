set_option maxHeartbeats 4000000 in
set_option maxRecDepth 100000 in
theorem ct_Md_number {D : va_G} {l : Launch} {cI cZ cR cM : ClassId} {M : Mem} {ad : Nat → Nat} {G : G2} (h : R2 cI cZ M ad G) (n : Nat) (hn : G.I 3 = nI n) (hn120 : n ≤ 120) (b : Int32) : Ct TT D cls (tyL cI cZ cR cM) l y_Md_number b_Md_number 4 (some .int) 0 0 0 0 [.ref (ad 0), .int b] M (fun rv M' => M' = M ∧ rv = some (.int (nI (cnt (G.T 8) b n)))) := by
  refine ct_of "BlockTargetSessionModel" rfl (by decide) (Nat.le_of_ble_eq_true rfl) ?_
  intro Z hl hD hnm hQ C
  subst hl
  subst hD
  show V cls 4 (rmOf 0 0 0 0) Z 0 [(0, .ref (ad 0)), (1, .int b)] [] M 0 0
  refine v_iconst C (v := 0) d_Md_number_0 (by decide) ?_
  refine v_istore_n C (i := 2) (lv' := [(2, .int 0), (0, .ref (ad 0)), (1, .int b)]) d_Md_number_1 rfl (by decide) rfl ?_
  refine v_iconst C (v := 0) d_Md_number_2 (by decide) ?_
  refine v_istore_n C (i := 3) (lv' := [(3, .int 0), (2, .int 0), (0, .ref (ad 0)), (1, .int b)]) d_Md_number_3 rfl (by decide) rfl ?_
  have L : ∀ (fu i : Nat), n - i < fu → i ≤ n → V cls 4 (rmOf 0 0 0 0) Z 4 [(3, .int (nI i)), (2, .int (nI (cnt (G.T 8) b i))), (0, .ref (ad 0)), (1, .int b)] [] M 0 0 := by
    intro fu
    induction fu with
    | zero => intro i hf; omega
    | succ fu ih =>
      intro i hf hi
      refine v_iload_n C (i := 3) d_Md_number_4 rfl rfl ?_
      refine v_aload_n C (i := 0) d_Md_number_5 rfl rfl ?_
      refine v_get C (v := .int (G.I 3)) in_Md h.o cl_Md 12 (by decide) w_383 rfl rfl d_Md_number_6 ?_
      refine V.eqst (st' := [.int (nI n), .int (nI i)]) (by rw [hn]) ?_
      refine v_icmp_ge C 31 d_Md_number_9 (by decide) (fun c_9 => ?_) (fun c_9 => ?_)
      · have hi2 : i = n := Nat.le_antisymm hi ((nI_leI (by omega) (by omega)).mp c_9)
        refine v_iload_n C (i := 2) d_Md_number_31 rfl rfl ?_
        exact v_iret hQ C rfl d_Md_number_32 (by omega) (by omega) ⟨rfl, by rw [hi2]⟩
      · have hi2 : i < n := Nat.lt_of_not_le (fun h => c_9 ((nI_leI (by omega) (by omega)).mpr h))
        refine v_aload_n C (i := 0) d_Md_number_12 rfl rfl ?_
        refine v_get C (v := .ref (ad 8)) in_Md h.o cl_Md 10 (by decide) w_381 rfl rfl d_Md_number_13 ?_
        refine v_iload_n C (i := 3) d_Md_number_16 rfl rfl ?_
        refine v_iald C (N := 120) (f := G.T 8) 0 (h.a 8 (by decide) (by decide)) rfl (pk_in i 120 (by omega)) d_Md_number_17 ?_
        refine V.eqst (st' := [.int (G.T 8 i)]) (by rw [show Int32.toNatClampNeg (nI i) = i from pk_cl _ (hx := rfl)]) ?_
        refine v_iload_n C (i := 1) d_Md_number_18 rfl rfl ?_
        refine v_icmp_ne C 25 d_Md_number_19 (by decide) (fun c_19 => ?_) (fun c_19 => ?_)
        · refine v_iinc C (i := 3) (j := 0) (v := nI (i + 1)) (lv' := [(3, .int (nI (i + 1))), (2, .int (nI (cnt (G.T 8) b i))), (0, .ref (ad 0)), (1, .int b)]) d_Md_number_25 rfl (nI_1 i) (by decide) rfl ?_
          refine v_goto C 4 d_Md_number_28 (by decide) ?_
          refine V.pick (lv' := [(3, .int (nI (i + 1))), (2, .int (nI (cnt (G.T 8) b i))), (0, .ref (ad 0)), (1, .int b)]) [0, 1, 2, 3] rfl ?_
          have e : cnt (G.T 8) b (i + 1) = (cnt (G.T 8) b i) := by rw [cnt, if_neg c_19, Nat.add_zero]
          have k9 := ih (i + 1) (by omega) (by omega)
          rw [e] at k9
          exact k9
        · refine v_iinc C (i := 2) (j := 1) (v := nI (cnt (G.T 8) b i + 1)) (lv' := [(2, .int (nI (cnt (G.T 8) b i + 1))), (3, .int (nI i)), (0, .ref (ad 0)), (1, .int b)]) d_Md_number_22 rfl (nI_1 _) (by decide) rfl ?_
          refine v_iinc C (i := 3) (j := 1) (v := nI (i + 1)) (lv' := [(3, .int (nI (i + 1))), (2, .int (nI (cnt (G.T 8) b i + 1))), (0, .ref (ad 0)), (1, .int b)]) d_Md_number_25 rfl (nI_1 i) (by decide) rfl ?_
          refine v_goto C 4 d_Md_number_28 (by decide) ?_
          refine V.pick (lv' := [(3, .int (nI (i + 1))), (2, .int (nI (cnt (G.T 8) b i + 1))), (0, .ref (ad 0)), (1, .int b)]) [0, 1, 2, 3] rfl ?_
          have e : cnt (G.T 8) b (i + 1) = (cnt (G.T 8) b i + 1) := by rw [cnt, if_pos c_19]
          have k9 := ih (i + 1) (by omega) (by omega)
          rw [e] at k9
          exact k9
  refine V.pick (lv' := [(3, .int (nI 0)), (2, .int (nI (cnt (G.T 8) b 0))), (0, .ref (ad 0)), (1, .int b)]) [0, 1, 2, 3] (by rw [cnt, nI_0]; rfl) ?_
  exact L (n + 1) 0 (by omega) (by omega)
set_option maxHeartbeats 4000000 in
set_option maxRecDepth 100000 in
theorem ct_Md_size {D : va_G} {l : Launch} {cI cZ cR cM : ClassId} {M : Mem} {ad : Nat → Nat} {G : G2} (h : R2 cI cZ M ad G)  : Ct TT D cls (tyL cI cZ cR cM) l y_Md_size b_Md_size 3 (some .int) 0 0 0 0 [.ref (ad 0)] M (fun rv M' => M' = M ∧ rv = some (.int (nI (cpos (G.T 3) 16)))) := by
  refine ct_of "BlockTargetSessionModel" rfl (by decide) (Nat.le_of_ble_eq_true rfl) ?_
  intro Z hl hD hnm hQ C
  subst hl
  subst hD
  show V cls 3 (rmOf 0 0 0 0) Z 0 [(0, .ref (ad 0))] [] M 0 0
  refine v_iconst C (v := 0) d_Md_size_0 (by decide) ?_
  refine v_istore_n C (i := 1) (lv' := [(1, .int 0), (0, .ref (ad 0))]) d_Md_size_1 rfl (by decide) rfl ?_
  refine v_iconst C (v := 0) d_Md_size_2 (by decide) ?_
  refine v_istore_n C (i := 2) (lv' := [(2, .int 0), (1, .int 0), (0, .ref (ad 0))]) d_Md_size_3 rfl (by decide) rfl ?_
  have L : ∀ (fu i : Nat), 16 - i < fu → i ≤ 16 → V cls 3 (rmOf 0 0 0 0) Z 4 [(2, .int (nI i)), (1, .int (nI (cpos (G.T 3) i))), (0, .ref (ad 0))] [] M 0 0 := by
    intro fu
    induction fu with
    | zero => intro i hf; omega
    | succ fu ih =>
      intro i hf hi
      refine v_iload_n C (i := 2) d_Md_size_4 rfl rfl ?_
      refine v_bipush C (v := 16) d_Md_size_5 (by decide) ?_
      refine v_icmp_ge C 28 d_Md_size_7 (by decide) (fun c_7 => ?_) (fun c_7 => ?_)
      · have hi2 : i = 16 := Nat.le_antisymm hi ((nI_leI (a := 16) (by omega) (by omega)).mp c_7)
        refine v_iload_n C (i := 1) d_Md_size_28 rfl rfl ?_
        exact v_iret hQ C rfl d_Md_size_29 (by omega) (by omega) ⟨rfl, by rw [hi2]⟩
      · have hi2 : i < 16 := Nat.lt_of_not_le (fun h => c_7 ((nI_leI (a := 16) (by omega) (by omega)).mpr h))
        refine v_aload_n C (i := 0) d_Md_size_10 rfl rfl ?_
        refine v_get C (v := .ref (ad 3)) in_Md h.o cl_Md 4 (by decide) w_375 rfl rfl d_Md_size_11 ?_
        refine v_iload_n C (i := 2) d_Md_size_14 rfl rfl ?_
        refine v_iald C (N := 16) (f := G.T 3) 0 (h.a 3 (by decide) (by decide)) rfl (pk_in i 16 (by omega)) d_Md_size_15 ?_
        refine V.eqst (st' := [.int (G.T 3 i)]) (by rw [show Int32.toNatClampNeg (nI i) = i from pk_cl _ (hx := rfl)]) ?_
        refine v_if_le C 22 d_Md_size_16 (by decide) (fun c_16 => ?_) (fun c_16 => ?_)
        · refine v_iinc C (i := 2) (j := 0) (v := nI (i + 1)) (lv' := [(2, .int (nI (i + 1))), (1, .int (nI (cpos (G.T 3) i))), (0, .ref (ad 0))]) d_Md_size_22 rfl (nI_1 i) (by decide) rfl ?_
          refine v_goto C 4 d_Md_size_25 (by decide) ?_
          refine V.pick (lv' := [(2, .int (nI (i + 1))), (1, .int (nI (cpos (G.T 3) i))), (0, .ref (ad 0))]) [0, 1, 2] rfl ?_
          have e : cpos (G.T 3) (i + 1) = (cpos (G.T 3) i) := by rw [cpos, if_neg (Int32.not_lt.mpr c_16), Nat.add_zero]
          have k9 := ih (i + 1) (by omega) (by omega)
          rw [e] at k9
          exact k9
        · refine v_iinc C (i := 1) (j := 1) (v := nI (cpos (G.T 3) i + 1)) (lv' := [(1, .int (nI (cpos (G.T 3) i + 1))), (2, .int (nI i)), (0, .ref (ad 0))]) d_Md_size_19 rfl (nI_1 _) (by decide) rfl ?_
          refine v_iinc C (i := 2) (j := 1) (v := nI (i + 1)) (lv' := [(2, .int (nI (i + 1))), (1, .int (nI (cpos (G.T 3) i + 1))), (0, .ref (ad 0))]) d_Md_size_22 rfl (nI_1 i) (by decide) rfl ?_
          refine v_goto C 4 d_Md_size_25 (by decide) ?_
          refine V.pick (lv' := [(2, .int (nI (i + 1))), (1, .int (nI (cpos (G.T 3) i + 1))), (0, .ref (ad 0))]) [0, 1, 2] rfl ?_
          have e : cpos (G.T 3) (i + 1) = (cpos (G.T 3) i + 1) := by rw [cpos, if_pos (Int32.not_le.mp c_16)]
          have k9 := ih (i + 1) (by omega) (by omega)
          rw [e] at k9
          exact k9
  refine V.pick (lv' := [(2, .int (nI 0)), (1, .int (nI (cpos (G.T 3) 0))), (0, .ref (ad 0))]) [0, 1, 2] (by rw [cpos, nI_0]; rfl) ?_
  exact L 17 0 (by omega) (by omega)
set_option maxHeartbeats 4000000 in
set_option maxRecDepth 100000 in
theorem ct_Md_blockAt {D : va_G} {l : Launch} {cI cZ cR cM : ClassId} {M : Mem} {ad : Nat → Nat} {G : G2} (h : R2 cI cZ M ad G) (p : Int32) : Ct TT D cls (tyL cI cZ cR cM) l y_Md_blockAt b_Md_blockAt 5 (some .int) 0 0 0 0 [.ref (ad 0), .int p] M (fun rv M' => M' = M ∧ ∃ x : Int32, rv = some (.int x) ∧ bAt (G.T 3) p x) := by
  refine ct_of "BlockTargetSessionModel" rfl (by decide) (Nat.le_of_ble_eq_true rfl) ?_
  intro Z hl hD hnm hQ C
  subst hl
  subst hD
  show V cls 5 (rmOf 0 0 0 0) Z 0 [(0, .ref (ad 0)), (1, .int p)] [] M 0 0
  refine v_iconst C (v := 0) d_Md_blockAt_0 (by decide) ?_
  refine v_istore_n C (i := 2) (lv' := [(2, .int 0), (0, .ref (ad 0)), (1, .int p)]) d_Md_blockAt_1 rfl (by decide) rfl ?_
  have L : ∀ (fu i : Nat), 16 - i < fu → i ≤ 16 → (∀ b, b < i → ¬ isAt (G.T 3) p b) → V cls 5 (rmOf 0 0 0 0) Z 2 [(2, .int (nI i)), (0, .ref (ad 0)), (1, .int p)] [] M 0 0 := by
    intro fu
    induction fu with
    | zero => intro i hf; omega
    | succ fu ih =>
      intro i hf hi hno
      refine v_iload_n C (i := 2) d_Md_blockAt_2 rfl rfl ?_
      refine v_bipush C (v := 16) d_Md_blockAt_3 (by decide) ?_
      refine v_icmp_ge C 77 d_Md_blockAt_5 (by decide) (fun c_5 => ?_) (fun c_5 => ?_)
      · have hi2 : i = 16 := Nat.le_antisymm hi ((nI_leI (a := 16) (by omega) (by omega)).mp c_5)
        refine v_bipush C (v := (-3)) d_Md_blockAt_77 (by decide) ?_
        exact v_iret hQ C rfl d_Md_blockAt_79 (by omega) (by omega) ⟨rfl, _, rfl, Or.inr ⟨fun b hb => hno b (by omega), rfl⟩⟩
      · have hi2 : i < 16 := Nat.lt_of_not_le (fun h => c_5 ((nI_leI (a := 16) (by omega) (by omega)).mpr h))
        refine v_iconst C (v := 0) d_Md_blockAt_8 (by decide) ?_
        refine v_istore_n C (i := 3) (lv' := [(3, .int 0), (2, .int (nI i)), (0, .ref (ad 0)), (1, .int p)]) d_Md_blockAt_9 rfl (by decide) rfl ?_
        refine v_iconst C (v := 0) d_Md_blockAt_10 (by decide) ?_
        refine v_istore C (i := 4) (lv' := [(4, .int 0), (3, .int 0), (2, .int (nI i)), (0, .ref (ad 0)), (1, .int p)]) d_Md_blockAt_11 (by decide) rfl ?_
        have L2 : ∀ (fv j : Nat), 16 - j < fv → j ≤ 16 → V cls 5 (rmOf 0 0 0 0) Z 13 [(4, .int (nI j)), (3, .int (nI (bef (G.T 3) (G.T 3 i) j))), (2, .int (nI i)), (0, .ref (ad 0)), (1, .int p)] [] M 0 0 := by
          intro fv
          induction fv with
          | zero => intro j hg; omega
          | succ fv ih2 =>
            intro j hg hj
            refine v_iload C (i := 4) d_Md_blockAt_13 rfl ?_
            refine v_bipush C (v := 16) d_Md_blockAt_15 (by decide) ?_
            refine v_icmp_ge C 55 d_Md_blockAt_17 (by decide) (fun c_17 => ?_) (fun c_17 => ?_)
            · have hj2 : j = 16 := Nat.le_antisymm hj ((nI_leI (a := 16) (by omega) (by omega)).mp c_17)
              subst hj2
              refine v_aload_n C (i := 0) d_Md_blockAt_55 rfl rfl ?_
              refine v_get C (v := .ref (ad 3)) in_Md h.o cl_Md 4 (by decide) w_375 rfl rfl d_Md_blockAt_56 ?_
              refine v_iload_n C (i := 2) d_Md_blockAt_59 rfl rfl ?_
              refine v_iald C (N := 16) (f := G.T 3) 0 (h.a 3 (by decide) (by decide)) rfl (pk_in i 16 (by omega)) d_Md_blockAt_60 ?_
              refine V.eqst (st' := [.int (G.T 3 i)]) (by rw [show Int32.toNatClampNeg (nI i) = i from pk_cl _ (hx := rfl)]) ?_
              refine v_if_le C 71 d_Md_blockAt_61 (by decide) (fun c_61 => ?_) (fun c_61 => ?_)
              · refine v_iinc C (i := 2) (j := 2) (v := nI (i + 1)) (lv' := [(2, .int (nI (i + 1))), (4, .int (nI 16)), (3, .int (nI (bef (G.T 3) (G.T 3 i) 16))), (0, .ref (ad 0)), (1, .int p)]) d_Md_blockAt_71 rfl (nI_1 i) (by decide) rfl ?_
                refine v_goto C 2 d_Md_blockAt_74 (by decide) ?_
                refine V.pick (lv' := [(2, .int (nI (i + 1))), (0, .ref (ad 0)), (1, .int p)]) [0, 3, 4] rfl ?_
                exact ih (i + 1) (by omega) (by omega) (fun b hb => by
                  by_cases c : b = i
                  · subst c; exact fun z => absurd z.1 (Int32.not_lt.mpr c_61)
                  · exact hno b (by omega))
              · refine v_iload_n C (i := 3) d_Md_blockAt_64 rfl rfl ?_
                refine v_iload_n C (i := 1) d_Md_blockAt_65 rfl rfl ?_
                refine v_icmp_ne C 71 d_Md_blockAt_66 (by decide) (fun c_66 => ?_) (fun c_66 => ?_)
                · refine v_iinc C (i := 2) (j := 2) (v := nI (i + 1)) (lv' := [(2, .int (nI (i + 1))), (4, .int (nI 16)), (3, .int (nI (bef (G.T 3) (G.T 3 i) 16))), (0, .ref (ad 0)), (1, .int p)]) d_Md_blockAt_71 rfl (nI_1 i) (by decide) rfl ?_
                  refine v_goto C 2 d_Md_blockAt_74 (by decide) ?_
                  refine V.pick (lv' := [(2, .int (nI (i + 1))), (0, .ref (ad 0)), (1, .int p)]) [0, 3, 4] rfl ?_
                  exact ih (i + 1) (by omega) (by omega) (fun b hb => by
                    by_cases c : b = i
                    · subst c; exact fun z => c_66 z.2
                    · exact hno b (by omega))
                · refine v_iload_n C (i := 2) d_Md_blockAt_69 rfl rfl ?_
                  exact v_iret hQ C rfl d_Md_blockAt_70 (by omega) (by omega) ⟨rfl, _, rfl, Or.inl ⟨i, hi2, ⟨Int32.not_le.mp c_61, c_66⟩, rfl⟩⟩
            · have hj2 : j < 16 := Nat.lt_of_not_le (fun h => c_17 ((nI_leI (a := 16) (by omega) (by omega)).mpr h))
              refine v_aload_n C (i := 0) d_Md_blockAt_20 rfl rfl ?_
              refine v_get C (v := .ref (ad 3)) in_Md h.o cl_Md 4 (by decide) w_375 rfl rfl d_Md_blockAt_21 ?_
              refine v_iload C (i := 4) d_Md_blockAt_24 rfl ?_
              refine v_iald C (N := 16) (f := G.T 3) 0 (h.a 3 (by decide) (by decide)) rfl (pk_in j 16 (by omega)) d_Md_blockAt_26 ?_
              refine V.eqst (st' := [.int (G.T 3 j)]) (by rw [show Int32.toNatClampNeg (nI j) = j from pk_cl _ (hx := rfl)]) ?_
              refine v_if_le C 49 d_Md_blockAt_27 (by decide) (fun c_27 => ?_) (fun c_27 => ?_)
              · refine v_iinc C (i := 4) (j := 0) (v := nI (j + 1)) (lv' := [(4, .int (nI (j + 1))), (3, .int (nI (bef (G.T 3) (G.T 3 i) j))), (2, .int (nI i)), (0, .ref (ad 0)), (1, .int p)]) d_Md_blockAt_49 rfl (nI_1 j) (by decide) rfl ?_
                refine v_goto C 13 d_Md_blockAt_52 (by decide) ?_
                refine V.pick (lv' := [(4, .int (nI (j + 1))), (3, .int (nI (bef (G.T 3) (G.T 3 i) j))), (2, .int (nI i)), (0, .ref (ad 0)), (1, .int p)]) [0, 1, 2, 3, 4] rfl ?_
                have e : bef (G.T 3) (G.T 3 i) (j + 1) = (bef (G.T 3) (G.T 3 i) j) := by rw [bef, if_neg (fun z => absurd z.1 (Int32.not_lt.mpr c_27)), Nat.add_zero]
                have k9 := ih2 (j + 1) (by omega) (by omega)
                rw [e] at k9
                exact k9
              · refine v_aload_n C (i := 0) d_Md_blockAt_30 rfl rfl ?_
                refine v_get C (v := .ref (ad 3)) in_Md h.o cl_Md 4 (by decide) w_375 rfl rfl d_Md_blockAt_31 ?_
                refine v_iload C (i := 4) d_Md_blockAt_34 rfl ?_
                refine v_iald C (N := 16) (f := G.T 3) 0 (h.a 3 (by decide) (by decide)) rfl (pk_in j 16 (by omega)) d_Md_blockAt_36 ?_
                refine V.eqst (st' := [.int (G.T 3 j)]) (by rw [show Int32.toNatClampNeg (nI j) = j from pk_cl _ (hx := rfl)]) ?_
                refine v_aload_n C (i := 0) d_Md_blockAt_37 rfl rfl ?_
                refine v_get C (v := .ref (ad 3)) in_Md h.o cl_Md 4 (by decide) w_375 rfl rfl d_Md_blockAt_38 ?_
                refine v_iload_n C (i := 2) d_Md_blockAt_41 rfl rfl ?_
                refine v_iald C (N := 16) (f := G.T 3) 0 (h.a 3 (by decide) (by decide)) rfl (pk_in i 16 (by omega)) d_Md_blockAt_42 ?_
                refine V.eqst (st' := [.int (G.T 3 i), .int (G.T 3 j)]) (by rw [show Int32.toNatClampNeg (nI i) = i from pk_cl _ (hx := rfl)]) ?_
                refine v_icmp_ge C 49 d_Md_blockAt_43 (by decide) (fun c_43 => ?_) (fun c_43 => ?_)
                · refine v_iinc C (i := 4) (j := 0) (v := nI (j + 1)) (lv' := [(4, .int (nI (j + 1))), (3, .int (nI (bef (G.T 3) (G.T 3 i) j))), (2, .int (nI i)), (0, .ref (ad 0)), (1, .int p)]) d_Md_blockAt_49 rfl (nI_1 j) (by decide) rfl ?_
                  refine v_goto C 13 d_Md_blockAt_52 (by decide) ?_
                  refine V.pick (lv' := [(4, .int (nI (j + 1))), (3, .int (nI (bef (G.T 3) (G.T 3 i) j))), (2, .int (nI i)), (0, .ref (ad 0)), (1, .int p)]) [0, 1, 2, 3, 4] rfl ?_
                  have e : bef (G.T 3) (G.T 3 i) (j + 1) = (bef (G.T 3) (G.T 3 i) j) := by rw [bef, if_neg (fun z => absurd z.2 (Int32.not_lt.mpr c_43)), Nat.add_zero]
                  have k9 := ih2 (j + 1) (by omega) (by omega)
                  rw [e] at k9
                  exact k9
                · refine v_iinc C (i := 3) (j := 1) (v := nI (bef (G.T 3) (G.T 3 i) j + 1)) (lv' := [(3, .int (nI (bef (G.T 3) (G.T 3 i) j + 1))), (4, .int (nI j)), (2, .int (nI i)), (0, .ref (ad 0)), (1, .int p)]) d_Md_blockAt_46 rfl (nI_1 _) (by decide) rfl ?_
                  refine v_iinc C (i := 4) (j := 1) (v := nI (j + 1)) (lv' := [(4, .int (nI (j + 1))), (3, .int (nI (bef (G.T 3) (G.T 3 i) j + 1))), (2, .int (nI i)), (0, .ref (ad 0)), (1, .int p)]) d_Md_blockAt_49 rfl (nI_1 j) (by decide) rfl ?_
                  refine v_goto C 13 d_Md_blockAt_52 (by decide) ?_
                  refine V.pick (lv' := [(4, .int (nI (j + 1))), (3, .int (nI (bef (G.T 3) (G.T 3 i) j + 1))), (2, .int (nI i)), (0, .ref (ad 0)), (1, .int p)]) [0, 1, 2, 3, 4] rfl ?_
                  have e : bef (G.T 3) (G.T 3 i) (j + 1) = (bef (G.T 3) (G.T 3 i) j + 1) := by rw [bef, if_pos ⟨Int32.not_le.mp c_27, Int32.not_le.mp c_43⟩]
                  have k9 := ih2 (j + 1) (by omega) (by omega)
                  rw [e] at k9
                  exact k9
        refine V.pick (lv' := [(4, .int (nI 0)), (3, .int (nI (bef (G.T 3) (G.T 3 i) 0))), (2, .int (nI i)), (0, .ref (ad 0)), (1, .int p)]) [0, 1, 2, 3, 4] (by rw [bef, nI_0]; rfl) ?_
        exact L2 17 0 (by omega) (by omega)
  refine V.pick (lv' := [(2, .int (nI 0)), (0, .ref (ad 0)), (1, .int p)]) [0, 1, 2] (by rw [nI_0]; rfl) ?_
  exact L 17 0 (by omega) (by omega) (fun b hb => absurd hb (Nat.not_lt_zero b))
set_option maxHeartbeats 4000000 in
set_option maxRecDepth 100000 in
theorem ct_Md_flush {D : va_G} {l : Launch} {cI cZ cR cM : ClassId} {M : Mem} {ad : Nat → Nat} {G : G2} (h : R2 cI cZ M ad G)  : Ct TT D cls (tyL cI cZ cR cM) l y_Md_flush b_Md_flush 2 (some .int) 1 24 0 0 [.ref (ad 0)] M (fun rv M' => ∃ x : Int32, rv = some (.int x) ∧ ∃ G', G.flR x G' ∧ R2 cI cZ M' ad G') := by
  refine ct_of "BlockTargetSessionModel" rfl (by decide) (Nat.le_of_ble_eq_true rfl) ?_
  intro Z hl hD hnm hQ C
  subst hl
  subst hD
  show V cls 2 (rmOf 1 24 0 0) Z 0 [(0, .ref (ad 0))] [] M 0 0
  refine v_aload_n C (i := 0) d_Md_flush_0 rfl rfl ?_
  refine v_iconst C (v := 0) d_Md_flush_1 (by decide) ?_
  refine v_callV C (As := [.int 0]) (rest := []) h.o cl_Md rfl w_474 wp_18 (ct_Md_blockAt h 0) (Nat.le_of_ble_eq_true rfl) (Nat.le_of_ble_eq_true rfl) w_475 w_6 hy_Md_blockAt w_472 rfl (Nat.le_of_ble_eq_true rfl) ⟨by decide, by decide⟩ d_Md_flush_2 (fun rv M hp => ?_)
  obtain ⟨rfl, x, rfl, hb⟩ := hp
  rcases hb with ⟨b, hb16, hat, rfl⟩ | ⟨hno, rfl⟩
  · refine V.eqst (st' := [.int (nI b)]) rfl (V.cs (k' := 0) (n' := 0) rfl rfl ?_)
    refine v_istore_n C (i := 1) (lv' := [(1, .int (nI b)), (0, .ref (ad 0))]) d_Md_flush_5 rfl (by decide) rfl ?_
    refine v_iload_n C (i := 1) d_Md_flush_6 rfl rfl ?_
    refine v_if_ge C 13 d_Md_flush_7 (by decide) (fun c_7 => ?_) (fun c_7 => absurd (nI_pos' (by omega)) c_7)
    refine v_aload_n C (i := 0) d_Md_flush_13 rfl rfl ?_
    refine v_get C (v := .ref (ad 1)) in_Md h.o cl_Md 2 (by decide) w_373 rfl rfl d_Md_flush_14 ?_
    refine v_iload_n C (i := 1) d_Md_flush_17 rfl rfl ?_
    refine v_aload_n C (i := 0) d_Md_flush_18 rfl rfl ?_
    refine v_get C (v := .ref (ad 2)) in_Md h.o cl_Md 3 (by decide) w_374 rfl rfl d_Md_flush_19 ?_
    refine v_iload_n C (i := 1) d_Md_flush_22 rfl rfl ?_
    refine v_iald C (N := 16) (f := G.T 2) 0 (h.a 2 (by decide) (by decide)) rfl (pk_in b 16 hb16) d_Md_flush_23 ?_
    refine V.eqst (st' := [.int (G.T 2 b), .int (nI b), .ref (ad 1)]) (by rw [show Int32.toNatClampNeg (nI b) = b from pk_cl _ (hx := rfl)]) ?_
    refine v_iast C (N := 16) (f := G.T 1) 0 (h.a 1 (by decide) (by decide)) rfl (pk_in b 16 hb16) d_Md_flush_24 ?_
    rw [show Int32.toNatClampNeg (nI b) = b from pk_cl _ (hx := rfl)]
    have h : R2 cI cZ (mset M (ad 1) (aI cI 16 (upd (G.T 1) b (G.T 2 b)))) ad (G.sT 1 (upd (G.T 1) b (G.T 2 b))) := h.pa 1 (by decide) (by decide) (upd (G.T 1) b (G.T 2 b))
    revert h
    generalize mset M (ad 1) (aI cI 16 (upd (G.T 1) b (G.T 2 b))) = M
    intro h
    refine v_aload_n C (i := 0) d_Md_flush_25 rfl rfl ?_
    refine v_get C (v := .ref (ad 3)) in_Md h.o cl_Md 4 (by decide) w_375 rfl rfl d_Md_flush_26 ?_
    refine v_iload_n C (i := 1) d_Md_flush_29 rfl rfl ?_
    refine v_iconst C (v := 0) d_Md_flush_30 (by decide) ?_
    refine v_iast C (N := 16) (f := G.T 3) 0 (h.a 3 (by decide) (by decide)) rfl (pk_in b 16 hb16) d_Md_flush_31 ?_
    rw [show Int32.toNatClampNeg (nI b) = b from pk_cl _ (hx := rfl)]
    have h : R2 cI cZ (mset M (ad 3) (aI cI 16 (upd (G.T 3) b 0))) ad ((G.sT 1 (upd (G.T 1) b (G.T 2 b))).sT 3 (upd (G.T 3) b 0)) := h.pa 3 (by decide) (by decide) (upd (G.T 3) b 0)
    revert h
    generalize mset M (ad 3) (aI cI 16 (upd (G.T 3) b 0)) = M
    intro h
    refine v_iload_n C (i := 1) d_Md_flush_32 rfl rfl ?_
    exact v_iret hQ C rfl d_Md_flush_33 (by omega) (by omega) ⟨nI b, rfl, _, Or.inl ⟨b, hb16, hat, rfl, rfl⟩, h⟩
  · refine V.eqst (st' := [.int (-3)]) rfl (V.cs (k' := 0) (n' := 0) rfl rfl ?_)
    refine v_istore_n C (i := 1) (lv' := [(1, .int (-3)), (0, .ref (ad 0))]) d_Md_flush_5 rfl (by decide) rfl ?_
    refine v_iload_n C (i := 1) d_Md_flush_6 rfl rfl ?_
    refine v_if_ge C 13 d_Md_flush_7 (by decide) (fun c_7 => absurd c_7 (by decide)) (fun c_7 => ?_)
    refine v_bipush C (v := (-3)) d_Md_flush_10 (by decide) ?_
    exact v_iret hQ C rfl d_Md_flush_12 (by omega) (by omega) ⟨-3, rfl, G, Or.inr ⟨hno, rfl, rfl⟩, h⟩
set_option maxHeartbeats 4000000 in
set_option maxRecDepth 100000 in
theorem ct_Md_put {D : va_G} {l : Launch} {cI cZ cR cM : ClassId} {M : Mem} {ad : Nat → Nat} {G : G2} (h : R2 cI cZ M ad G) (b : Nat) (hb : b < 16) (v : Int32) : Ct TT D cls (tyL cI cZ cR cM) l y_Md_put b_Md_put 4 none 2 45 0 0 [.ref (ad 0), .int (nI b), .int v] M (fun rv M' => rv = none ∧ ∃ G', G.ptR b v G' ∧ R2 cI cZ M' ad G') := by
  refine ct_of "BlockTargetSessionModel" rfl (by decide) (Nat.le_of_ble_eq_true rfl) ?_
  intro Z hl hD hnm hQ C
  subst hl
  subst hD
  show V cls 4 (rmOf 2 45 0 0) Z 0 [(0, .ref (ad 0)), (1, .int (nI b)), (2, .int v)] [] M 0 0
  refine v_aload_n C (i := 0) d_Md_put_0 rfl rfl ?_
  refine v_get C (v := .ref (ad 2)) in_Md h.o cl_Md 3 (by decide) w_374 rfl rfl d_Md_put_1 ?_
  refine v_iload_n C (i := 1) d_Md_put_4 rfl rfl ?_
  refine v_iload_n C (i := 2) d_Md_put_5 rfl rfl ?_
  refine v_iast C (N := 16) (f := G.T 2) 0 (h.a 2 (by decide) (by decide)) rfl (pk_in b 16 hb) d_Md_put_6 ?_
  rw [show Int32.toNatClampNeg (nI b) = b from pk_cl _ (hx := rfl)]
  have h : R2 cI cZ (mset M (ad 2) (aI cI 16 (upd (G.T 2) b v))) ad (G.sT 2 (upd (G.T 2) b v)) := h.pa 2 (by decide) (by decide) (upd (G.T 2) b v)
  revert h
  generalize mset M (ad 2) (aI cI 16 (upd (G.T 2) b v)) = M
  intro h
  refine v_aload_n C (i := 0) d_Md_put_7 rfl rfl ?_
  refine v_get C (v := .ref (ad 3)) in_Md h.o cl_Md 4 (by decide) w_375 rfl rfl d_Md_put_8 ?_
  refine v_iload_n C (i := 1) d_Md_put_11 rfl rfl ?_
  refine v_iald C (N := 16) (f := G.T 3) 0 (h.a 3 (by decide) (by decide)) rfl (pk_in b 16 hb) d_Md_put_12 ?_
  refine V.eqst (st' := [.int (G.T 3 b)]) (by rw [show Int32.toNatClampNeg (nI b) = b from pk_cl _ (hx := rfl)]) ?_
  refine v_if_le C 17 d_Md_put_13 (by decide) (fun c_13 => ?_) (fun c_13 => ?_)
  · refine v_aload_n C (i := 0) d_Md_put_17 rfl rfl ?_
    refine v_dup C d_Md_put_18 rfl ?_
    refine v_get C (v := .int (G.I 2)) in_Md h.o cl_Md 5 (by decide) w_376 rfl rfl d_Md_put_19 ?_
    refine v_iconst C (v := 1) d_Md_put_22 (by decide) ?_
    refine v_iadd C d_Md_put_23 ?_
    refine v_put C in_Md t_Md to_Md nm_Md h.o cl_Md 5 (by decide) (fs' := [.int (G.I 0), .int (G.I 1), .ref (ad 1), .ref (ad 2), .ref (ad 3), .int ((G.I 2) + 1), .ref (ad 4), .ref (ad 5), .ref (ad 6), .ref (ad 7), .ref (ad 8), .ref (ad 9), .int (G.I 3), .ref (ad 10), .ref (ad 11), .ref (ad 12), .ref (ad 13), .ref (ad 14), .ref (ad 15), .ref (ad 16), .int (G.I 4), .int (G.I 5), .int (G.I 6), .int (G.I 7), .int (G.I 8)]) w_376 rfl rfl rfl rfl (Nat.le_of_ble_eq_true rfl) rfl d_Md_put_24 ?_
    have h : R2 cI cZ (mset M (ad 0) (ob 5 [.int (G.I 0), .int (G.I 1), .ref (ad 1), .ref (ad 2), .ref (ad 3), .int ((G.I 2) + 1), .ref (ad 4), .ref (ad 5), .ref (ad 6), .ref (ad 7), .ref (ad 8), .ref (ad 9), .int (G.I 3), .ref (ad 10), .ref (ad 11), .ref (ad 12), .ref (ad 13), .ref (ad 14), .ref (ad 15), .ref (ad 16), .int (G.I 4), .int (G.I 5), .int (G.I 6), .int (G.I 7), .int (G.I 8)])) ad ((G.sT 2 (upd (G.T 2) b v)).sI 2 ((G.I 2) + 1)) := h.po 2 ((G.I 2) + 1)
    revert h
    generalize mset M (ad 0) (ob 5 [.int (G.I 0), .int (G.I 1), .ref (ad 1), .ref (ad 2), .ref (ad 3), .int ((G.I 2) + 1), .ref (ad 4), .ref (ad 5), .ref (ad 6), .ref (ad 7), .ref (ad 8), .ref (ad 9), .int (G.I 3), .ref (ad 10), .ref (ad 11), .ref (ad 12), .ref (ad 13), .ref (ad 14), .ref (ad 15), .ref (ad 16), .int (G.I 4), .int (G.I 5), .int (G.I 6), .int (G.I 7), .int (G.I 8)]) = M
    intro h
    refine v_aload_n C (i := 0) d_Md_put_27 rfl rfl ?_
    refine v_get C (v := .ref (ad 3)) in_Md h.o cl_Md 4 (by decide) w_375 rfl rfl d_Md_put_28 ?_
    refine v_iload_n C (i := 1) d_Md_put_31 rfl rfl ?_
    refine v_aload_n C (i := 0) d_Md_put_32 rfl rfl ?_
    refine v_get C (v := .int ((G.I 2) + 1)) in_Md h.o cl_Md 5 (by decide) w_376 rfl rfl d_Md_put_33 ?_
    refine v_iast C (N := 16) (f := G.T 3) 0 (h.a 3 (by decide) (by decide)) rfl (pk_in b 16 hb) d_Md_put_36 ?_
    rw [show Int32.toNatClampNeg (nI b) = b from pk_cl _ (hx := rfl)]
    have h : R2 cI cZ (mset M (ad 3) (aI cI 16 (upd (G.T 3) b ((G.I 2) + 1)))) ad (((G.sT 2 (upd (G.T 2) b v)).sI 2 ((G.I 2) + 1)).sT 3 (upd (G.T 3) b ((G.I 2) + 1))) := h.pa 3 (by decide) (by decide) (upd (G.T 3) b ((G.I 2) + 1))
    revert h
    generalize mset M (ad 3) (aI cI 16 (upd (G.T 3) b ((G.I 2) + 1))) = M
    intro h
    refine v_aload_n C (i := 0) d_Md_put_37 rfl rfl ?_
    refine v_callV C (As := []) (rest := []) h.o cl_Md rfl w_510 wp_25 (ct_Md_size h) (Nat.le_of_ble_eq_true rfl) (Nat.le_of_ble_eq_true rfl) w_511 w_6 hy_Md_size w_508 rfl (Nat.le_of_ble_eq_true rfl) ⟨by decide, by decide⟩ d_Md_put_38 (fun rv M hp => ?_)
    obtain ⟨rfl, rfl⟩ := hp
    refine V.eqst (st' := [.int (nI (cpos ((((G.sT 2 (upd (G.T 2) b v)).sI 2 ((G.I 2) + 1)).sT 3 (upd (G.T 3) b ((G.I 2) + 1))).T 3) 16))]) rfl (V.cs (k' := 0) (n' := 0) rfl rfl ?_)
    refine v_aload_n C (i := 0) d_Md_put_41 rfl rfl ?_
    refine v_get C (v := .int (G.I 1)) in_Md h.o cl_Md 1 (by decide) w_372 rfl rfl d_Md_put_42 ?_
    refine v_icmp_le C 55 d_Md_put_45 (by decide) (fun c_45 => ?_) (fun c_45 => ?_)
    · refine v_iconst C (v := 0) d_Md_put_55 (by decide) ?_
      refine v_istore_n C (i := 3) (lv' := [(3, .int 0), (0, .ref (ad 0)), (1, .int (nI b)), (2, .int v)]) d_Md_put_56 rfl (by decide) rfl ?_
      exact v_vret hQ C rfl d_Md_put_57 (by omega) (by omega) ⟨rfl, _, Or.inr ⟨Int32.not_lt.mpr c_13, Or.inl ⟨c_45, rfl⟩⟩, h⟩
    · refine v_aload_n C (i := 0) d_Md_put_48 rfl rfl ?_
      refine v_callV C (As := []) (rest := []) h.o cl_Md rfl w_469 w_470 (ct_Md_flush h) (Nat.le_of_ble_eq_true rfl) (Nat.le_of_ble_eq_true rfl) w_471 w_6 hy_Md_flush w_512 rfl (Nat.le_of_ble_eq_true rfl) ⟨by decide, by decide⟩ d_Md_put_49 (fun rv M hp => ?_)
      obtain ⟨x, rfl, G', hf, hw⟩ := hp
      refine V.eqst (st' := [.int x]) rfl (V.cs (k' := 0) (n' := 0) rfl rfl ?_)
      refine v_goto C 56 d_Md_put_52 (by decide) ?_
      refine v_istore_n C (i := 3) (lv' := [(3, .int x), (0, .ref (ad 0)), (1, .int (nI b)), (2, .int v)]) d_Md_put_56 rfl (by decide) rfl ?_
      exact v_vret hQ C rfl d_Md_put_57 (by omega) (by omega) ⟨rfl, G', Or.inr ⟨Int32.not_lt.mpr c_13, Or.inr ⟨c_45, x, hf⟩⟩, hw⟩
  · exact v_vret hQ C rfl d_Md_put_16 (by omega) (by omega) ⟨rfl, _, Or.inl ⟨Int32.not_le.mp c_13, rfl⟩, h⟩
set_option maxHeartbeats 4000000 in
set_option maxRecDepth 100000 in
theorem ct_Md_post0 {D : va_G} {l : Launch} {cI cZ cR cM : ClassId} {M : Mem} {ad : Nat → Nat} {G : G2} (h : R2 cI cZ M ad G) (sz : Nat) (hsz : sz < 64) (hs : G.T 16 0 = nI sz) (a b c d : Int32) : Ct TT D cls (tyL cI cZ cR cM) l y_Md_post b_Md_post 7 none 0 0 0 0 [.ref (ad 0), .int 0, .int a, .int b, .int c, .int d] M (fun rv M' => rv = none ∧ R2 cI cZ M' ad (G.pst 0 sz a b c d 0)) := by
  refine ct_of "BlockTargetSessionModel" rfl (by decide) (Nat.le_of_ble_eq_true rfl) ?_
  intro Z hl hD hnm hQ C
  subst hl
  subst hD
  show V cls 7 (rmOf 0 0 0 0) Z 0 [(0, .ref (ad 0)), (1, .int 0), (2, .int a), (3, .int b), (4, .int c), (5, .int d)] [] M 0 0
  refine v_iload_n C (i := 1) d_Md_post_0 rfl rfl ?_
  refine v_bipush C (v := 64) d_Md_post_1 (by decide) ?_
  refine v_imul C d_Md_post_3 ?_
  refine V.eqst (st' := [.int (nI 0)]) (by rw [show (0 : Int32) * 64 = nI 0 from by decide]) ?_
  refine v_aload_n C (i := 0) d_Md_post_4 rfl rfl ?_
  refine v_get C (v := .ref (ad 16)) in_Md h.o cl_Md 19 (by decide) w_390 rfl rfl d_Md_post_5 ?_
  refine v_iload_n C (i := 1) d_Md_post_8 rfl rfl ?_
  refine v_iald C (N := 2) (f := G.T 16) 0 h.hd rfl (pk_in 0 2 (by decide) (by decide)) d_Md_post_9 ?_
  refine V.eqst (st' := [.int (G.T 16 0), .int (nI 0)]) (by rw [show Int32.toNatClampNeg 0 = 0 from pk_cl _ (hx := by decide)]) ?_
  refine V.eqst (st' := [.int (nI sz), .int (nI 0)]) (by rw [hs]) ?_
  refine v_iadd C d_Md_post_10 ?_
  refine V.eqst (st' := [.int (nI (0 + sz))]) (by rw [nI_add]) ?_
  refine v_istore C (i := 6) (lv' := [(6, .int (nI (0 + sz))), (0, .ref (ad 0)), (1, .int 0), (2, .int a), (3, .int b), (4, .int c), (5, .int d)]) d_Md_post_11 (by decide) rfl ?_
  refine v_aload_n C (i := 0) d_Md_post_13 rfl rfl ?_
  refine v_get C (v := .ref (ad 10)) in_Md h.o cl_Md 13 (by decide) w_384 rfl rfl d_Md_post_14 ?_
  refine v_iload C (i := 6) d_Md_post_17 rfl ?_
  refine v_iload_n C (i := 2) d_Md_post_19 rfl rfl ?_
  refine v_iast C (N := 128) (f := G.T 10) 0 (h.a 10 (by decide) (by decide)) rfl (pk_in (0 + sz) 128 (by omega)) d_Md_post_20 ?_
  rw [show Int32.toNatClampNeg (nI (0 + sz)) = 0 + sz from pk_cl _ (hx := rfl)]
  have h : R2 cI cZ (mset M (ad 10) (aI cI 128 (upd (G.T 10) (0 + sz) a))) ad (G.sT 10 (upd (G.T 10) (0 + sz) a)) := h.pa 10 (by decide) (by decide) (upd (G.T 10) (0 + sz) a)
  revert h
  generalize mset M (ad 10) (aI cI 128 (upd (G.T 10) (0 + sz) a)) = M
  intro h
  refine v_aload_n C (i := 0) d_Md_post_21 rfl rfl ?_
  refine v_get C (v := .ref (ad 11)) in_Md h.o cl_Md 14 (by decide) w_385 rfl rfl d_Md_post_22 ?_
  refine v_iload C (i := 6) d_Md_post_25 rfl ?_
  refine v_iload_n C (i := 3) d_Md_post_27 rfl rfl ?_
  refine v_iast C (N := 128) (f := G.T 11) 0 (h.a 11 (by decide) (by decide)) rfl (pk_in (0 + sz) 128 (by omega)) d_Md_post_28 ?_
  rw [show Int32.toNatClampNeg (nI (0 + sz)) = 0 + sz from pk_cl _ (hx := rfl)]
  have h : R2 cI cZ (mset M (ad 11) (aI cI 128 (upd (G.T 11) (0 + sz) b))) ad ((G.sT 10 (upd (G.T 10) (0 + sz) a)).sT 11 (upd (G.T 11) (0 + sz) b)) := h.pa 11 (by decide) (by decide) (upd (G.T 11) (0 + sz) b)
  revert h
  generalize mset M (ad 11) (aI cI 128 (upd (G.T 11) (0 + sz) b)) = M
  intro h
  refine v_aload_n C (i := 0) d_Md_post_29 rfl rfl ?_
  refine v_get C (v := .ref (ad 12)) in_Md h.o cl_Md 15 (by decide) w_386 rfl rfl d_Md_post_30 ?_
  refine v_iload C (i := 6) d_Md_post_33 rfl ?_
  refine v_iload C (i := 4) d_Md_post_35 rfl ?_
  refine v_iast C (N := 128) (f := G.T 12) 0 (h.a 12 (by decide) (by decide)) rfl (pk_in (0 + sz) 128 (by omega)) d_Md_post_37 ?_
  rw [show Int32.toNatClampNeg (nI (0 + sz)) = 0 + sz from pk_cl _ (hx := rfl)]
  have h : R2 cI cZ (mset M (ad 12) (aI cI 128 (upd (G.T 12) (0 + sz) c))) ad (((G.sT 10 (upd (G.T 10) (0 + sz) a)).sT 11 (upd (G.T 11) (0 + sz) b)).sT 12 (upd (G.T 12) (0 + sz) c)) := h.pa 12 (by decide) (by decide) (upd (G.T 12) (0 + sz) c)
  revert h
  generalize mset M (ad 12) (aI cI 128 (upd (G.T 12) (0 + sz) c)) = M
  intro h
  refine v_aload_n C (i := 0) d_Md_post_38 rfl rfl ?_
  refine v_get C (v := .ref (ad 13)) in_Md h.o cl_Md 16 (by decide) w_387 rfl rfl d_Md_post_39 ?_
  refine v_iload C (i := 6) d_Md_post_42 rfl ?_
  refine v_iload C (i := 5) d_Md_post_44 rfl ?_
  refine v_iast C (N := 128) (f := G.T 13) 0 (h.a 13 (by decide) (by decide)) rfl (pk_in (0 + sz) 128 (by omega)) d_Md_post_46 ?_
  rw [show Int32.toNatClampNeg (nI (0 + sz)) = 0 + sz from pk_cl _ (hx := rfl)]
  have h : R2 cI cZ (mset M (ad 13) (aI cI 128 (upd (G.T 13) (0 + sz) d))) ad ((((G.sT 10 (upd (G.T 10) (0 + sz) a)).sT 11 (upd (G.T 11) (0 + sz) b)).sT 12 (upd (G.T 12) (0 + sz) c)).sT 13 (upd (G.T 13) (0 + sz) d)) := h.pa 13 (by decide) (by decide) (upd (G.T 13) (0 + sz) d)
  revert h
  generalize mset M (ad 13) (aI cI 128 (upd (G.T 13) (0 + sz) d)) = M
  intro h
  refine v_aload_n C (i := 0) d_Md_post_47 rfl rfl ?_
  refine v_get C (v := .ref (ad 14)) in_Md h.o cl_Md 17 (by decide) w_388 rfl rfl d_Md_post_48 ?_
  refine v_iload C (i := 6) d_Md_post_51 rfl ?_
  refine v_iload_n C (i := 1) d_Md_post_53 rfl rfl ?_
  refine v_if_ne C 61 d_Md_post_54 (by decide) (fun c_54 => absurd (rfl) c_54) (fun c_54 => ?_)
  refine v_iconst C (v := 0) d_Md_post_57 (by decide) ?_
  refine v_goto C 70 d_Md_post_58 (by decide) ?_
  refine v_iast C (N := 128) (f := G.T 14) 0 (h.a 14 (by decide) (by decide)) rfl (pk_in (0 + sz) 128 (by omega)) d_Md_post_70 ?_
  rw [show Int32.toNatClampNeg (nI (0 + sz)) = 0 + sz from pk_cl _ (hx := rfl)]
  have h : R2 cI cZ (mset M (ad 14) (aI cI 128 (upd (G.T 14) (0 + sz) 0))) ad (((((G.sT 10 (upd (G.T 10) (0 + sz) a)).sT 11 (upd (G.T 11) (0 + sz) b)).sT 12 (upd (G.T 12) (0 + sz) c)).sT 13 (upd (G.T 13) (0 + sz) d)).sT 14 (upd (G.T 14) (0 + sz) 0)) := h.pa 14 (by decide) (by decide) (upd (G.T 14) (0 + sz) 0)
  revert h
  generalize mset M (ad 14) (aI cI 128 (upd (G.T 14) (0 + sz) 0)) = M
  intro h
  refine v_aload_n C (i := 0) d_Md_post_71 rfl rfl ?_
  refine v_get C (v := .ref (ad 15)) in_Md h.o cl_Md 18 (by decide) w_389 rfl rfl d_Md_post_72 ?_
  refine v_iload C (i := 6) d_Md_post_75 rfl ?_
  refine v_iconst C (v := 0) d_Md_post_77 (by decide) ?_
  refine v_zast C (N := 128) (f := G.T 15) 1 h.z rfl (pk_in (0 + sz) 128 (by omega)) (y := 0) rfl d_Md_post_78 ?_
  rw [show Int32.toNatClampNeg (nI (0 + sz)) = 0 + sz from pk_cl _ (hx := rfl)]
  have h : R2 cI cZ (mset M (ad 15) (aI cZ 128 (upd (G.T 15) (0 + sz) 0))) ad ((((((G.sT 10 (upd (G.T 10) (0 + sz) a)).sT 11 (upd (G.T 11) (0 + sz) b)).sT 12 (upd (G.T 12) (0 + sz) c)).sT 13 (upd (G.T 13) (0 + sz) d)).sT 14 (upd (G.T 14) (0 + sz) 0)).sT 15 (upd (G.T 15) (0 + sz) 0)) := h.pa 15 (by decide) (by decide) (upd (G.T 15) (0 + sz) 0)
  revert h
  generalize mset M (ad 15) (aI cZ 128 (upd (G.T 15) (0 + sz) 0)) = M
  intro h
  refine v_aload_n C (i := 0) d_Md_post_79 rfl rfl ?_
  refine v_get C (v := .ref (ad 16)) in_Md h.o cl_Md 19 (by decide) w_390 rfl rfl d_Md_post_80 ?_
  refine v_iload_n C (i := 1) d_Md_post_83 rfl rfl ?_
  refine v_dup2_11 C d_Md_post_84 rfl rfl ?_
  refine v_iald C (N := 2) (f := G.T 16) 0 h.hd rfl (pk_in 0 2 (by decide) (by decide)) d_Md_post_85 ?_
  refine V.eqst (st' := [.int (G.T 16 0), .int 0, .ref (ad 16)]) (by rw [show Int32.toNatClampNeg 0 = 0 from pk_cl _ (hx := by decide)]) ?_
  refine V.eqst (st' := [.int (nI sz), .int 0, .ref (ad 16)]) (by rw [hs]) ?_
  refine v_iconst C (v := 1) d_Md_post_86 (by decide) ?_
  refine v_iadd C d_Md_post_87 ?_
  refine V.eqst (st' := [.int (nI (sz + 1)), .int 0, .ref (ad 16)]) (by rw [nI_1]) ?_
  refine v_iast C (N := 2) (f := G.T 16) 0 h.hd rfl (pk_in 0 2 (by decide) (by decide)) d_Md_post_88 ?_
  rw [show Int32.toNatClampNeg 0 = 0 from pk_cl _ (hx := by decide)]
  have h : R2 cI cZ (mset M (ad 16) (aI cI 2 (upd (G.T 16) 0 (nI (sz + 1))))) ad (((((((G.sT 10 (upd (G.T 10) (0 + sz) a)).sT 11 (upd (G.T 11) (0 + sz) b)).sT 12 (upd (G.T 12) (0 + sz) c)).sT 13 (upd (G.T 13) (0 + sz) d)).sT 14 (upd (G.T 14) (0 + sz) 0)).sT 15 (upd (G.T 15) (0 + sz) 0)).sT 16 (upd (G.T 16) 0 (nI (sz + 1)))) := h.pa 16 (by decide) (by decide) (upd (G.T 16) 0 (nI (sz + 1)))
  revert h
  generalize mset M (ad 16) (aI cI 2 (upd (G.T 16) 0 (nI (sz + 1)))) = M
  intro h
  exact v_vret hQ C rfl d_Md_post_89 (by omega) (by omega) ⟨rfl, h⟩
set_option maxHeartbeats 4000000 in
set_option maxRecDepth 100000 in
theorem ct_Md_post1 {D : va_G} {l : Launch} {cI cZ cR cM : ClassId} {M : Mem} {ad : Nat → Nat} {G : G2} (h : R2 cI cZ M ad G) (sz : Nat) (hsz : sz < 64) (hs : G.T 16 1 = nI sz) (a b c d : Int32) : Ct TT D cls (tyL cI cZ cR cM) l y_Md_post b_Md_post 7 none 0 0 0 0 [.ref (ad 0), .int 1, .int a, .int b, .int c, .int d] M (fun rv M' => rv = none ∧ R2 cI cZ M' ad (G.pst 1 sz a b c d (G.I 6 + G.I 0))) := by
  refine ct_of "BlockTargetSessionModel" rfl (by decide) (Nat.le_of_ble_eq_true rfl) ?_
  intro Z hl hD hnm hQ C
  subst hl
  subst hD
  show V cls 7 (rmOf 0 0 0 0) Z 0 [(0, .ref (ad 0)), (1, .int 1), (2, .int a), (3, .int b), (4, .int c), (5, .int d)] [] M 0 0
  refine v_iload_n C (i := 1) d_Md_post_0 rfl rfl ?_
  refine v_bipush C (v := 64) d_Md_post_1 (by decide) ?_
  refine v_imul C d_Md_post_3 ?_
  refine V.eqst (st' := [.int (nI 64)]) (by rw [show (1 : Int32) * 64 = nI 64 from by decide]) ?_
  refine v_aload_n C (i := 0) d_Md_post_4 rfl rfl ?_
  refine v_get C (v := .ref (ad 16)) in_Md h.o cl_Md 19 (by decide) w_390 rfl rfl d_Md_post_5 ?_
  refine v_iload_n C (i := 1) d_Md_post_8 rfl rfl ?_
  refine v_iald C (N := 2) (f := G.T 16) 0 h.hd rfl (pk_in 1 2 (by decide) (by decide)) d_Md_post_9 ?_
  refine V.eqst (st' := [.int (G.T 16 1), .int (nI 64)]) (by rw [show Int32.toNatClampNeg 1 = 1 from pk_cl _ (hx := by decide)]) ?_
  refine V.eqst (st' := [.int (nI sz), .int (nI 64)]) (by rw [hs]) ?_
  refine v_iadd C d_Md_post_10 ?_
  refine V.eqst (st' := [.int (nI (64 + sz))]) (by rw [nI_add]) ?_
  refine v_istore C (i := 6) (lv' := [(6, .int (nI (64 + sz))), (0, .ref (ad 0)), (1, .int 1), (2, .int a), (3, .int b), (4, .int c), (5, .int d)]) d_Md_post_11 (by decide) rfl ?_
  refine v_aload_n C (i := 0) d_Md_post_13 rfl rfl ?_
  refine v_get C (v := .ref (ad 10)) in_Md h.o cl_Md 13 (by decide) w_384 rfl rfl d_Md_post_14 ?_
  refine v_iload C (i := 6) d_Md_post_17 rfl ?_
  refine v_iload_n C (i := 2) d_Md_post_19 rfl rfl ?_
  refine v_iast C (N := 128) (f := G.T 10) 0 (h.a 10 (by decide) (by decide)) rfl (pk_in (64 + sz) 128 (by omega)) d_Md_post_20 ?_
  rw [show Int32.toNatClampNeg (nI (64 + sz)) = 64 + sz from pk_cl _ (hx := rfl)]
  have h : R2 cI cZ (mset M (ad 10) (aI cI 128 (upd (G.T 10) (64 + sz) a))) ad (G.sT 10 (upd (G.T 10) (64 + sz) a)) := h.pa 10 (by decide) (by decide) (upd (G.T 10) (64 + sz) a)
  revert h
  generalize mset M (ad 10) (aI cI 128 (upd (G.T 10) (64 + sz) a)) = M
  intro h
  refine v_aload_n C (i := 0) d_Md_post_21 rfl rfl ?_
  refine v_get C (v := .ref (ad 11)) in_Md h.o cl_Md 14 (by decide) w_385 rfl rfl d_Md_post_22 ?_
  refine v_iload C (i := 6) d_Md_post_25 rfl ?_
  refine v_iload_n C (i := 3) d_Md_post_27 rfl rfl ?_
  refine v_iast C (N := 128) (f := G.T 11) 0 (h.a 11 (by decide) (by decide)) rfl (pk_in (64 + sz) 128 (by omega)) d_Md_post_28 ?_
  rw [show Int32.toNatClampNeg (nI (64 + sz)) = 64 + sz from pk_cl _ (hx := rfl)]
  have h : R2 cI cZ (mset M (ad 11) (aI cI 128 (upd (G.T 11) (64 + sz) b))) ad ((G.sT 10 (upd (G.T 10) (64 + sz) a)).sT 11 (upd (G.T 11) (64 + sz) b)) := h.pa 11 (by decide) (by decide) (upd (G.T 11) (64 + sz) b)
  revert h
  generalize mset M (ad 11) (aI cI 128 (upd (G.T 11) (64 + sz) b)) = M
  intro h
  refine v_aload_n C (i := 0) d_Md_post_29 rfl rfl ?_
  refine v_get C (v := .ref (ad 12)) in_Md h.o cl_Md 15 (by decide) w_386 rfl rfl d_Md_post_30 ?_
  refine v_iload C (i := 6) d_Md_post_33 rfl ?_
  refine v_iload C (i := 4) d_Md_post_35 rfl ?_
  refine v_iast C (N := 128) (f := G.T 12) 0 (h.a 12 (by decide) (by decide)) rfl (pk_in (64 + sz) 128 (by omega)) d_Md_post_37 ?_
  rw [show Int32.toNatClampNeg (nI (64 + sz)) = 64 + sz from pk_cl _ (hx := rfl)]
  have h : R2 cI cZ (mset M (ad 12) (aI cI 128 (upd (G.T 12) (64 + sz) c))) ad (((G.sT 10 (upd (G.T 10) (64 + sz) a)).sT 11 (upd (G.T 11) (64 + sz) b)).sT 12 (upd (G.T 12) (64 + sz) c)) := h.pa 12 (by decide) (by decide) (upd (G.T 12) (64 + sz) c)
  revert h
  generalize mset M (ad 12) (aI cI 128 (upd (G.T 12) (64 + sz) c)) = M
  intro h
  refine v_aload_n C (i := 0) d_Md_post_38 rfl rfl ?_
  refine v_get C (v := .ref (ad 13)) in_Md h.o cl_Md 16 (by decide) w_387 rfl rfl d_Md_post_39 ?_
  refine v_iload C (i := 6) d_Md_post_42 rfl ?_
  refine v_iload C (i := 5) d_Md_post_44 rfl ?_
  refine v_iast C (N := 128) (f := G.T 13) 0 (h.a 13 (by decide) (by decide)) rfl (pk_in (64 + sz) 128 (by omega)) d_Md_post_46 ?_
  rw [show Int32.toNatClampNeg (nI (64 + sz)) = 64 + sz from pk_cl _ (hx := rfl)]
  have h : R2 cI cZ (mset M (ad 13) (aI cI 128 (upd (G.T 13) (64 + sz) d))) ad ((((G.sT 10 (upd (G.T 10) (64 + sz) a)).sT 11 (upd (G.T 11) (64 + sz) b)).sT 12 (upd (G.T 12) (64 + sz) c)).sT 13 (upd (G.T 13) (64 + sz) d)) := h.pa 13 (by decide) (by decide) (upd (G.T 13) (64 + sz) d)
  revert h
  generalize mset M (ad 13) (aI cI 128 (upd (G.T 13) (64 + sz) d)) = M
  intro h
  refine v_aload_n C (i := 0) d_Md_post_47 rfl rfl ?_
  refine v_get C (v := .ref (ad 14)) in_Md h.o cl_Md 17 (by decide) w_388 rfl rfl d_Md_post_48 ?_
  refine v_iload C (i := 6) d_Md_post_51 rfl ?_
  refine v_iload_n C (i := 1) d_Md_post_53 rfl rfl ?_
  refine v_if_ne C 61 d_Md_post_54 (by decide) (fun c_54 => ?_) (fun c_54 => absurd c_54 (by decide))
  refine v_aload_n C (i := 0) d_Md_post_61 rfl rfl ?_
  refine v_get C (v := .int (G.I 6)) in_Md h.o cl_Md 22 (by decide) w_393 rfl rfl d_Md_post_62 ?_
  refine v_aload_n C (i := 0) d_Md_post_65 rfl rfl ?_
  refine v_get C (v := .int (G.I 0)) in_Md h.o cl_Md 0 (by decide) w_371 rfl rfl d_Md_post_66 ?_
  refine v_iadd C d_Md_post_69 ?_
  refine v_iast C (N := 128) (f := G.T 14) 0 (h.a 14 (by decide) (by decide)) rfl (pk_in (64 + sz) 128 (by omega)) d_Md_post_70 ?_
  rw [show Int32.toNatClampNeg (nI (64 + sz)) = 64 + sz from pk_cl _ (hx := rfl)]
  have h : R2 cI cZ (mset M (ad 14) (aI cI 128 (upd (G.T 14) (64 + sz) ((G.I 6) + (G.I 0))))) ad (((((G.sT 10 (upd (G.T 10) (64 + sz) a)).sT 11 (upd (G.T 11) (64 + sz) b)).sT 12 (upd (G.T 12) (64 + sz) c)).sT 13 (upd (G.T 13) (64 + sz) d)).sT 14 (upd (G.T 14) (64 + sz) ((G.I 6) + (G.I 0)))) := h.pa 14 (by decide) (by decide) (upd (G.T 14) (64 + sz) ((G.I 6) + (G.I 0)))
  revert h
  generalize mset M (ad 14) (aI cI 128 (upd (G.T 14) (64 + sz) ((G.I 6) + (G.I 0)))) = M
  intro h
  refine v_aload_n C (i := 0) d_Md_post_71 rfl rfl ?_
  refine v_get C (v := .ref (ad 15)) in_Md h.o cl_Md 18 (by decide) w_389 rfl rfl d_Md_post_72 ?_
  refine v_iload C (i := 6) d_Md_post_75 rfl ?_
  refine v_iconst C (v := 0) d_Md_post_77 (by decide) ?_
  refine v_zast C (N := 128) (f := G.T 15) 1 h.z rfl (pk_in (64 + sz) 128 (by omega)) (y := 0) rfl d_Md_post_78 ?_
  rw [show Int32.toNatClampNeg (nI (64 + sz)) = 64 + sz from pk_cl _ (hx := rfl)]
  have h : R2 cI cZ (mset M (ad 15) (aI cZ 128 (upd (G.T 15) (64 + sz) 0))) ad ((((((G.sT 10 (upd (G.T 10) (64 + sz) a)).sT 11 (upd (G.T 11) (64 + sz) b)).sT 12 (upd (G.T 12) (64 + sz) c)).sT 13 (upd (G.T 13) (64 + sz) d)).sT 14 (upd (G.T 14) (64 + sz) ((G.I 6) + (G.I 0)))).sT 15 (upd (G.T 15) (64 + sz) 0)) := h.pa 15 (by decide) (by decide) (upd (G.T 15) (64 + sz) 0)
  revert h
  generalize mset M (ad 15) (aI cZ 128 (upd (G.T 15) (64 + sz) 0)) = M
  intro h
  refine v_aload_n C (i := 0) d_Md_post_79 rfl rfl ?_
  refine v_get C (v := .ref (ad 16)) in_Md h.o cl_Md 19 (by decide) w_390 rfl rfl d_Md_post_80 ?_
  refine v_iload_n C (i := 1) d_Md_post_83 rfl rfl ?_
  refine v_dup2_11 C d_Md_post_84 rfl rfl ?_
  refine v_iald C (N := 2) (f := G.T 16) 0 h.hd rfl (pk_in 1 2 (by decide) (by decide)) d_Md_post_85 ?_
  refine V.eqst (st' := [.int (G.T 16 1), .int 1, .ref (ad 16)]) (by rw [show Int32.toNatClampNeg 1 = 1 from pk_cl _ (hx := by decide)]) ?_
  refine V.eqst (st' := [.int (nI sz), .int 1, .ref (ad 16)]) (by rw [hs]) ?_
  refine v_iconst C (v := 1) d_Md_post_86 (by decide) ?_
  refine v_iadd C d_Md_post_87 ?_
  refine V.eqst (st' := [.int (nI (sz + 1)), .int 1, .ref (ad 16)]) (by rw [nI_1]) ?_
  refine v_iast C (N := 2) (f := G.T 16) 0 h.hd rfl (pk_in 1 2 (by decide) (by decide)) d_Md_post_88 ?_
  rw [show Int32.toNatClampNeg 1 = 1 from pk_cl _ (hx := by decide)]
  have h : R2 cI cZ (mset M (ad 16) (aI cI 2 (upd (G.T 16) 1 (nI (sz + 1))))) ad (((((((G.sT 10 (upd (G.T 10) (64 + sz) a)).sT 11 (upd (G.T 11) (64 + sz) b)).sT 12 (upd (G.T 12) (64 + sz) c)).sT 13 (upd (G.T 13) (64 + sz) d)).sT 14 (upd (G.T 14) (64 + sz) ((G.I 6) + (G.I 0)))).sT 15 (upd (G.T 15) (64 + sz) 0)).sT 16 (upd (G.T 16) 1 (nI (sz + 1)))) := h.pa 16 (by decide) (by decide) (upd (G.T 16) 1 (nI (sz + 1)))
  revert h
  generalize mset M (ad 16) (aI cI 2 (upd (G.T 16) 1 (nI (sz + 1)))) = M
  intro h
  exact v_vret hQ C rfl d_Md_post_89 (by omega) (by omega) ⟨rfl, h⟩
set_option maxHeartbeats 4000000 in
set_option maxRecDepth 100000 in
theorem ct_Md_finish {D : va_G} {l : Launch} {cI cZ cR cM : ClassId} {M : Mem} {ad : Nat → Nat} {G : G2} (h : R2 cI cZ M ad G) (sz : Nat) (hsz : sz < 64) (hs : G.T 16 1 = nI sz) (q : Int32) : Ct TT D cls (tyL cI cZ cR cM) l y_Md_finish b_Md_finish 2 none 1 26 0 0 [.ref (ad 0), .int q] M (fun rv M' => rv = none ∧ R2 cI cZ M' ad (G.fin sz q)) := by
  refine ct_of "BlockTargetSessionModel" rfl (by decide) (Nat.le_of_ble_eq_true rfl) ?_
  intro Z hl hD hnm hQ C
  subst hl
  subst hD
  show V cls 2 (rmOf 1 26 0 0) Z 0 [(0, .ref (ad 0)), (1, .int q)] [] M 0 0
  refine v_aload_n C (i := 0) d_Md_finish_0 rfl rfl ?_
  refine v_dup C d_Md_finish_1 rfl ?_
  refine v_get C (v := .int (G.I 6)) in_Md h.o cl_Md 22 (by decide) w_393 rfl rfl d_Md_finish_2 ?_
  refine v_iconst C (v := 1) d_Md_finish_5 (by decide) ?_
  refine v_iadd C d_Md_finish_6 ?_
  refine v_put C in_Md t_Md to_Md nm_Md h.o cl_Md 22 (by decide) (fs' := [.int (G.I 0), .int (G.I 1), .ref (ad 1), .ref (ad 2), .ref (ad 3), .int (G.I 2), .ref (ad 4), .ref (ad 5), .ref (ad 6), .ref (ad 7), .ref (ad 8), .ref (ad 9), .int (G.I 3), .ref (ad 10), .ref (ad 11), .ref (ad 12), .ref (ad 13), .ref (ad 14), .ref (ad 15), .ref (ad 16), .int (G.I 4), .int (G.I 5), .int ((G.I 6) + 1), .int (G.I 7), .int (G.I 8)]) w_393 rfl rfl rfl rfl (Nat.le_of_ble_eq_true rfl) rfl d_Md_finish_7 ?_
  have h : R2 cI cZ (mset M (ad 0) (ob 5 [.int (G.I 0), .int (G.I 1), .ref (ad 1), .ref (ad 2), .ref (ad 3), .int (G.I 2), .ref (ad 4), .ref (ad 5), .ref (ad 6), .ref (ad 7), .ref (ad 8), .ref (ad 9), .int (G.I 3), .ref (ad 10), .ref (ad 11), .ref (ad 12), .ref (ad 13), .ref (ad 14), .ref (ad 15), .ref (ad 16), .int (G.I 4), .int (G.I 5), .int ((G.I 6) + 1), .int (G.I 7), .int (G.I 8)])) ad (G.sI 6 ((G.I 6) + 1)) := h.po 6 ((G.I 6) + 1)
  revert h
  generalize mset M (ad 0) (ob 5 [.int (G.I 0), .int (G.I 1), .ref (ad 1), .ref (ad 2), .ref (ad 3), .int (G.I 2), .ref (ad 4), .ref (ad 5), .ref (ad 6), .ref (ad 7), .ref (ad 8), .ref (ad 9), .int (G.I 3), .ref (ad 10), .ref (ad 11), .ref (ad 12), .ref (ad 13), .ref (ad 14), .ref (ad 15), .ref (ad 16), .int (G.I 4), .int (G.I 5), .int ((G.I 6) + 1), .int (G.I 7), .int (G.I 8)]) = M
  intro h
  refine v_aload_n C (i := 0) d_Md_finish_10 rfl rfl ?_
  refine v_iconst C (v := 1) d_Md_finish_11 (by decide) ?_
  refine v_iload_n C (i := 1) d_Md_finish_12 rfl rfl ?_
  refine v_iconst C (v := 4) d_Md_finish_13 (by decide) ?_
  refine v_iconst C (v := 0) d_Md_finish_14 (by decide) ?_
  refine v_iconst C (v := 0) d_Md_finish_15 (by decide) ?_
  refine v_callV C (As := [.int 1, .int q, .int 4, .int 0, .int 0]) (rest := []) h.o cl_Md rfl w_486 wp_20 (ct_Md_post1 h sz (by omega) hs q 4 0 0) (Nat.le_of_ble_eq_true rfl) (Nat.le_of_ble_eq_true rfl) w_487 w_6 hy_Md_post w_484 rfl (Nat.le_of_ble_eq_true rfl) ⟨by decide, by decide⟩ d_Md_finish_16 (fun rv M hp => ?_)
  obtain ⟨rfl, hw⟩ := hp
  refine V.eqst (st' := []) rfl (V.cs (k' := 0) (n' := 0) rfl rfl ?_)
  exact v_vret hQ C rfl d_Md_finish_19 (by omega) (by omega) ⟨rfl, hw⟩
set_option maxHeartbeats 4000000 in
set_option maxRecDepth 100000 in
theorem ct_Md_valueOf {D : va_G} {l : Launch} {cI cZ cR cM : ClassId} {M : Mem} {ad : Nat → Nat} {G : G2} (h : R2 cI cZ M ad G) (b : Nat) (hb : b < 16) : Ct TT D cls (tyL cI cZ cR cM) l y_Md_valueOf b_Md_valueOf 2 (some .int) 0 0 0 0 [.ref (ad 0), .int (nI b)] M (fun rv M' => M' = M ∧ rv = some (.int (G.vo b))) := by
  refine ct_of "BlockTargetSessionModel" rfl (by decide) (Nat.le_of_ble_eq_true rfl) ?_
  intro Z hl hD hnm hQ C
  subst hl
  subst hD
  show V cls 2 (rmOf 0 0 0 0) Z 0 [(0, .ref (ad 0)), (1, .int (nI b))] [] M 0 0
  refine v_aload_n C (i := 0) d_Md_valueOf_0 rfl rfl ?_
  refine v_get C (v := .ref (ad 3)) in_Md h.o cl_Md 4 (by decide) w_375 rfl rfl d_Md_valueOf_1 ?_
  refine v_iload_n C (i := 1) d_Md_valueOf_4 rfl rfl ?_
  refine v_iald C (N := 16) (f := G.T 3) 0 (h.a 3 (by decide) (by decide)) rfl (pk_in b 16 hb) d_Md_valueOf_5 ?_
  refine V.eqst (st' := [.int (G.T 3 b)]) (by rw [show Int32.toNatClampNeg (nI b) = b from pk_cl _ (hx := rfl)]) ?_
  refine v_if_le C 18 d_Md_valueOf_6 (by decide) (fun c_6 => ?_) (fun c_6 => ?_)
  · refine v_aload_n C (i := 0) d_Md_valueOf_18 rfl rfl ?_
    refine v_get C (v := .ref (ad 1)) in_Md h.o cl_Md 2 (by decide) w_373 rfl rfl d_Md_valueOf_19 ?_
    refine v_iload_n C (i := 1) d_Md_valueOf_22 rfl rfl ?_
    refine v_iald C (N := 16) (f := G.T 1) 0 (h.a 1 (by decide) (by decide)) rfl (pk_in b 16 hb) d_Md_valueOf_23 ?_
    refine V.eqst (st' := [.int (G.T 1 b)]) (by rw [show Int32.toNatClampNeg (nI b) = b from pk_cl _ (hx := rfl)]) ?_
    exact v_iret hQ C rfl d_Md_valueOf_24 (by omega) (by omega) ⟨rfl, by rw [G2.vo, if_pos c_6]⟩
  · refine v_aload_n C (i := 0) d_Md_valueOf_9 rfl rfl ?_
    refine v_get C (v := .ref (ad 2)) in_Md h.o cl_Md 3 (by decide) w_374 rfl rfl d_Md_valueOf_10 ?_
    refine v_iload_n C (i := 1) d_Md_valueOf_13 rfl rfl ?_
    refine v_iald C (N := 16) (f := G.T 2) 0 (h.a 2 (by decide) (by decide)) rfl (pk_in b 16 hb) d_Md_valueOf_14 ?_
    refine V.eqst (st' := [.int (G.T 2 b)]) (by rw [show Int32.toNatClampNeg (nI b) = b from pk_cl _ (hx := rfl)]) ?_
    refine v_goto C 24 d_Md_valueOf_15 (by decide) ?_
    exact v_iret hQ C rfl d_Md_valueOf_24 (by omega) (by omega) ⟨rfl, by rw [G2.vo, if_neg c_6]⟩
set_option maxHeartbeats 4000000 in
set_option maxRecDepth 100000 in
theorem ct_Md_putAll {D : va_G} {l : Launch} {cI cZ cR cM : ClassId} {M : Mem} {ad : Nat → Nat} {G : G2} (h : R2 cI cZ M ad G) (q : Nat) (hq : q < 120) (f c : Nat) (hf : G.T 5 q = nI f) (hc : G.T 6 q = nI c) (hfc : f + c ≤ 16) (hc3 : c ≤ 3) (sz : Nat) (hsz : sz < 64) (hs : G.T 16 1 = nI sz) : Ct TT D cls (tyL cI cZ cR cM) l y_Md_putAll b_Md_putAll 3 none 3 68 0 0 [.ref (ad 0), .int (nI q)] M (fun rv M' => rv = none ∧ ∃ H, G.ptN f (G.T 7 q) c H ∧ R2 cI cZ M' ad (H.fin sz (nI q))) := by
  refine ct_of "BlockTargetSessionModel" rfl (by decide) (Nat.le_of_ble_eq_true rfl) ?_
  intro Z hl hD hnm hQ C
  subst hl
  subst hD
  show V cls 3 (rmOf 3 68 0 0) Z 0 [(0, .ref (ad 0)), (1, .int (nI q))] [] M 0 0
  refine v_iconst C (v := 0) d_Md_putAll_0 (by decide) ?_
  refine v_istore_n C (i := 2) (lv' := [(2, .int 0), (0, .ref (ad 0)), (1, .int (nI q))]) d_Md_putAll_1 rfl (by decide) rfl ?_
  have L : ∀ (fu i : Nat) (M : Mem) (H : G2), c - i < fu → i ≤ c → G.ptN f (G.T 7 q) i H → R2 cI cZ M ad H → V cls 3 (rmOf 3 68 0 0) Z 2 [(2, .int (nI i)), (0, .ref (ad 0)), (1, .int (nI q))] [] M 0 0 := by
    intro fu
    induction fu with
    | zero => intro i M H hg; omega
    | succ fu ih =>
      intro i M H hg hi hN h
      have sm := ptN_same hN
      have e5 : H.T 5 q = nI f := by rw [sm.2 5 (by decide)]; exact hf
      have e6 : H.T 6 q = nI c := by rw [sm.2 6 (by decide)]; exact hc
      have e7 : H.T 7 q = G.T 7 q := by rw [sm.2 7 (by decide)]
      refine v_iload_n C (i := 2) d_Md_putAll_2 rfl rfl ?_
      refine v_aload_n C (i := 0) d_Md_putAll_3 rfl rfl ?_
      refine v_get C (v := .ref (ad 6)) in_Md h.o cl_Md 8 (by decide) w_379 rfl rfl d_Md_putAll_4 ?_
      refine v_iload_n C (i := 1) d_Md_putAll_7 rfl rfl ?_
      refine v_iald C (N := 120) (f := H.T 6) 0 (h.a 6 (by decide) (by decide)) rfl (pk_in q 120 hq) d_Md_putAll_8 ?_
      refine V.eqst (st' := [.int (H.T 6 q), .int (nI i)]) (by rw [show Int32.toNatClampNeg (nI q) = q from pk_cl _ (hx := rfl)]) ?_
      refine V.eqst (st' := [.int (nI c), .int (nI i)]) (by rw [e6]) ?_
      refine v_icmp_ge C 38 d_Md_putAll_9 (by decide) (fun c_9 => ?_) (fun c_9 => ?_)
      · have hi2 : i = c := Nat.le_antisymm hi ((nI_leI (by omega) (by omega)).mp c_9)
        subst hi2
        refine v_aload_n C (i := 0) d_Md_putAll_38 rfl rfl ?_
        refine v_iload_n C (i := 1) d_Md_putAll_39 rfl rfl ?_
        refine v_callV C (As := [.int (nI q)]) (rest := []) h.o cl_Md rfl w_515 wp_26 (ct_Md_finish h sz hsz (by rw [sm.2 16 (by decide)]; exact hs) (nI q)) (Nat.le_of_ble_eq_true rfl) (Nat.le_of_ble_eq_true rfl) w_516 w_6 hy_Md_finish w_513 rfl (Nat.le_of_ble_eq_true rfl) ⟨by decide, by decide⟩ d_Md_putAll_40 (fun rv M hp => ?_)
        obtain ⟨rfl, hw⟩ := hp
        refine V.eqst (st' := []) rfl (V.cs (k' := 0) (n' := 0) rfl rfl ?_)
        exact v_vret hQ C rfl d_Md_putAll_43 (by omega) (by omega) ⟨rfl, H, hN, hw⟩
      · have hi2 : i < c := Nat.lt_of_not_le (fun z => c_9 ((nI_leI (by omega) (by omega)).mpr z))
        refine v_aload_n C (i := 0) d_Md_putAll_12 rfl rfl ?_
        refine v_aload_n C (i := 0) d_Md_putAll_13 rfl rfl ?_
        refine v_get C (v := .ref (ad 5)) in_Md h.o cl_Md 7 (by decide) w_378 rfl rfl d_Md_putAll_14 ?_
        refine v_iload_n C (i := 1) d_Md_putAll_17 rfl rfl ?_
        refine v_iald C (N := 120) (f := H.T 5) 0 (h.a 5 (by decide) (by decide)) rfl (pk_in q 120 hq) d_Md_putAll_18 ?_
        refine V.eqst (st' := [.int (H.T 5 q), .ref (ad 0)]) (by rw [show Int32.toNatClampNeg (nI q) = q from pk_cl _ (hx := rfl)]) ?_
        refine V.eqst (st' := [.int (nI f), .ref (ad 0)]) (by rw [e5]) ?_
        refine v_iload_n C (i := 2) d_Md_putAll_19 rfl rfl ?_
        refine v_iadd C d_Md_putAll_20 ?_
        refine V.eqst (st' := [.int (nI (f + i)), .ref (ad 0)]) (by rw [nI_add]) ?_
        refine v_aload_n C (i := 0) d_Md_putAll_21 rfl rfl ?_
        refine v_get C (v := .ref (ad 7)) in_Md h.o cl_Md 9 (by decide) w_380 rfl rfl d_Md_putAll_22 ?_
        refine v_iload_n C (i := 1) d_Md_putAll_25 rfl rfl ?_
        refine v_iald C (N := 120) (f := H.T 7) 0 (h.a 7 (by decide) (by decide)) rfl (pk_in q 120 hq) d_Md_putAll_26 ?_
        refine V.eqst (st' := [.int (H.T 7 q), .int (nI (f + i)), .ref (ad 0)]) (by rw [show Int32.toNatClampNeg (nI q) = q from pk_cl _ (hx := rfl)]) ?_
        refine V.eqst (st' := [.int (G.T 7 q), .int (nI (f + i)), .ref (ad 0)]) (by rw [e7]) ?_
        refine v_iload_n C (i := 2) d_Md_putAll_27 rfl rfl ?_
        refine v_iadd C d_Md_putAll_28 ?_
        refine v_callV C (As := [.int (nI (f + i)), .int ((G.T 7 q) + (nI i))]) (rest := []) h.o cl_Md rfl w_506 wp_24 (ct_Md_put h (f + i) (by omega) ((G.T 7 q) + (nI i))) (Nat.le_of_ble_eq_true rfl) (Nat.le_of_ble_eq_true rfl) w_507 w_6 hy_Md_put w_504 rfl (Nat.le_of_ble_eq_true rfl) ⟨by decide, by decide⟩ d_Md_putAll_29 (fun rv M hp => ?_)
        obtain ⟨rfl, H', hpt, hw⟩ := hp
        refine V.eqst (st' := []) rfl (V.cs (k' := 0) (n' := 0) rfl rfl ?_)
        refine v_iinc C (i := 2) (j := 0) (v := nI (i + 1)) (lv' := [(2, .int (nI (i + 1))), (0, .ref (ad 0)), (1, .int (nI q))]) d_Md_putAll_32 rfl (nI_1 i) (by decide) rfl ?_
        refine v_goto C 2 d_Md_putAll_35 (by decide) ?_
        exact ih (i + 1) M H' (by omega) (by omega) ⟨H, hN, hpt⟩ hw
  refine V.pick (lv' := [(2, .int (nI 0)), (0, .ref (ad 0)), (1, .int (nI q))]) [0, 1, 2] (by rw [nI_0]; rfl) ?_
  exact L (c + 1) 0 M G (by omega) (by omega) rfl h
