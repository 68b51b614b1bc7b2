set_option maxHeartbeats 4000000 in
set_option maxRecDepth 100000 in
theorem ct_Ln_init {D : va_G} {l : Launch} {cI cZ cR cM : ClassId} {M : Mem} {ln : Nat} (N : Nat) (hN : N ≤ 16) (h1 : M ln = some (ob 0 [.null, .int 0])) : Ct TT D cls (tyL cI cZ cR cM) l y_Ln_init b_Ln_init 3 none 2 44 (1 + N) (7 * N) [.ref ln, .int (nI N)] M (fun rv M' => rv = none ∧ ∃ (sl : Nat) (a : Nat → Nat), (∀ b e, M b = some e → b < sl) ∧ (∀ j, j < N → sl < a j) ∧ (∀ j j', j < j' → j' < N → a j < a j') ∧ M' ln = some (ob 0 [.ref sl, .int 0]) ∧ M' sl = some (aQ cM N (fun j => if j < N then some (a j) else none)) ∧ (∀ j, j < N → M' (a j) = some (ob 1 [.int 0, .int 0, .int 0, .int 0, .int 0, .int 0])) ∧ (∀ b e, b ≠ ln → M b = some e → M' b = some e)) := by
  refine ct_of "BlockTargetSession$Line" rfl (by decide) (Nat.le_of_ble_eq_true rfl) ?_
  intro Z hl hD hnm hQ C
  subst hl
  subst hD
  show V cls 3 (rmOf 2 44 (1 + N) (7 * N)) Z 0 [(0, .ref ln), (1, .int (nI N))] [] M 0 0
  refine v_aload_n C (i := 0) d_Ln_init_0 rfl rfl ?_
  refine v_objInit C w_24 w_15 w_16 (Nat.le_of_ble_eq_true rfl) (Nat.le_of_ble_eq_true rfl) d_Ln_init_1 ?_
  refine v_aload_n C (i := 0) d_Ln_init_4 rfl rfl ?_
  refine v_iconst C (v := 0) d_Ln_init_5 (by decide) ?_
  refine v_put C in_Ln t_Ln to_Ln nm_Ln h1 cl_Ln 1 (by decide) (fs' := [.null, .int 0]) w_58 rfl rfl rfl rfl (Nat.le_of_ble_eq_true rfl) rfl d_Ln_init_6 ?_
  rw [mset_id h1]
  refine v_aload_n C (i := 0) d_Ln_init_9 rfl rfl ?_
  refine v_iload_n C (i := 1) d_Ln_init_10 rfl rfl ?_
  refine v_newq C w_25 w_26 3 rfl (N := N) (nI_pos (by omega)) (pk_cl N) (by omega) (by show 0 + 1 ≤ 1 + N; omega) (by show 0 + N ≤ 7 * N; omega) d_Ln_init_11 (fun q_11 hq_11 oq_11 => ?_)
  refine V.eqst (st' := [.ref q_11, .ref ln]) rfl (V.cs (k' := 1) (n' := 0 + N) rfl rfl ?_)
  have oq_11' : ∀ b e, M b = some e → b < q_11 := oq_11
  refine v_putF C in_Ln t_Ln to_Ln nm_Ln ((mset_ne (fr_ne hq_11 h1)).trans h1) cl_Ln 0 (by decide) (fs' := [.ref q_11, .int 0]) w_57 rfl rfl hnm rfl rfl rfl (Nat.le_of_ble_eq_true rfl) rfl d_Ln_init_14 ?_
  refine v_iconst C (v := 0) d_Ln_init_17 (by decide) ?_
  refine v_istore_n C (i := 2) (lv' := [(2, .int 0), (0, .ref ln), (1, .int (nI N))]) d_Ln_init_18 rfl (by decide) rfl ?_
  have nl : ln ≠ q_11 := fr_ne hq_11 h1
  have k1 : (mset (mset M q_11 (aQ cM N (fun _ => none))) ln (ob 0 [.ref q_11, .int 0])) ln = some (ob 0 [.ref q_11, .int 0]) := mset_self _ _ _
  have k2 : (mset (mset M q_11 (aQ cM N (fun _ => none))) ln (ob 0 [.ref q_11, .int 0])) q_11 = some (aQ cM N (fun _ => none)) := (mset_ne (Ne.symm nl)).trans (mset_self _ _ _)
  have k3 : ∀ b e, b ≠ ln → M b = some e → (mset (mset M q_11 (aQ cM N (fun _ => none))) ln (ob 0 [.ref q_11, .int 0])) b = some e := fun b e hb he => by rw [mset_ne hb, mset_ne (fr_ne hq_11 he)]; exact he
  revert k1 k2 k3
  generalize mset (mset M q_11 (aQ cM N (fun _ => none))) ln (ob 0 [.ref q_11, .int 0]) = M1
  intro k1 k2 k3
  have L : ∀ (fu i : Nat) (M1 : Mem) (a : Nat → Nat), N - i < fu → i ≤ N → M1 ln = some (ob 0 [.ref q_11, .int 0]) → M1 q_11 = some (aQ cM N (fun j => if j < i then some (a j) else none)) → (∀ j, j < i → M1 (a j) = some (ob 1 [.int 0, .int 0, .int 0, .int 0, .int 0, .int 0])) → (∀ b e, b ≠ ln → M b = some e → M1 b = some e) → (∀ j, j < i → q_11 < a j) → (∀ j j', j < j' → j' < i → a j < a j') → V cls 3 (rmOf 2 44 (1 + N) (7 * N)) Z 19 [(2, .int (nI i)), (0, .ref ln), (1, .int (nI N))] [] M1 (1 + i) (N + 6 * i) := by
    intro fu
    induction fu with
    | zero => intro i M1 a hf; omega
    | succ fu ih =>
      intro i M1 a hf hi k1 k2 k4 k3 k5 k6
      refine v_iload_n C (i := 2) d_Ln_init_19 rfl rfl ?_
      refine v_iload_n C (i := 1) d_Ln_init_20 rfl rfl ?_
      refine v_icmp_ge C 43 d_Ln_init_21 (by decide) (fun c_21 => ?_) (fun c_21 => ?_)
      · have hi2 : i = N := Nat.le_antisymm hi ((nI_leI (by omega) (by omega)).mp c_21)
        subst hi2
        exact v_vret hQ C rfl d_Ln_init_43 (by omega) (by omega) ⟨rfl, q_11, a, oq_11', k5, k6, k1, k2, k4, k3⟩
      · have hi2 : i < N := Nat.lt_of_not_le (fun z => c_21 ((nI_leI (by omega) (by omega)).mpr z))
        refine v_aload_n C (i := 0) d_Ln_init_24 rfl rfl ?_
        refine v_get C (v := .ref q_11) in_Ln k1 cl_Ln 0 (by decide) w_57 rfl rfl d_Ln_init_25 ?_
        refine v_iload_n C (i := 2) d_Ln_init_28 rfl rfl ?_
        refine v_new C (fs := [.int 0, .int 0, .int 0, .int 0, .int 0, .int 0]) in_Ms t_Ms to_Ms w_25 w_27 w_3 cl_Ms (fun j hj => by rcases (show j = 0 ∨ j = 1 ∨ j = 2 ∨ j = 3 ∨ j = 4 ∨ j = 5 by omega) with rfl | rfl | rfl | rfl | rfl | rfl <;> rfl) (by show 1 + i + 1 ≤ 1 + N; omega) (by show N + 6 * i + 6 ≤ 7 * N; omega) d_Ln_init_29 (fun q_29 hq_29 oq_29 => ?_)
        refine V.eqst (st' := [.ref q_29, .int (nI i), .ref q_11]) rfl (V.cs (k' := 1 + i + 1) (n' := N + 6 * i + 6) rfl rfl ?_)
        refine v_dup C d_Ln_init_32 rfl ?_
        refine v_callIN C (As := []) (rest := [.ref q_29, .int (nI i), .ref q_11]) rfl w_29 (ct_Ms_init (mset_self _ _ _)) (Nat.le_of_ble_eq_true rfl) (Nat.le_of_ble_eq_true rfl) w_30 w_3 hy_Ms_init w_28 rfl (Nat.le_of_ble_eq_true rfl) ⟨by show 1 + i + 1 + 0 ≤ 1 + N; omega, by show N + 6 * i + 6 + 0 ≤ 7 * N; omega⟩ d_Ln_init_33 (fun rv M hp => ?_)
        obtain ⟨rfl, rfl⟩ := hp
        rw [mset_set]
        refine V.eqst (st' := [.ref q_29, .int (nI i), .ref q_11]) rfl (V.cs (k' := 1 + i + 1) (n' := N + 6 * i + 6) rfl rfl ?_)
        refine v_astq C (N := N) (f := fun j => if j < i then some (a j) else none) 3 1 ((mset_ne (fr_ne hq_29 k2)).trans k2) rfl (mset_self _ _ _) cl_Ms (pk_in i N (by omega)) d_Ln_init_36 ?_
        rw [show Int32.toNatClampNeg (nI i) = i from pk_cl _ (hx := rfl)]
        refine v_iinc C (i := 2) (j := 0) (v := nI (i + 1)) (lv' := [(2, .int (nI (i + 1))), (0, .ref ln), (1, .int (nI N))]) d_Ln_init_37 rfl (nI_1 i) (by decide) rfl ?_
        refine v_goto C 19 d_Ln_init_40 (by decide) ?_
        have ef : va_up (fun j => if j < i then some (a j) else none) i (some q_29) = fun j => if j < i + 1 then some (va_up a i q_29 j) else none := by
          funext j
          by_cases cj : j = i
          · subst cj; rw [va_up_self, if_pos (by omega), va_up_self]
          · rw [va_up_ne _ _ cj, va_up_ne _ _ cj]
            by_cases cl : j < i
            · rw [if_pos cl, if_pos (by omega)]
            · rw [if_neg cl, if_neg (by omega)]
        rw [ef]
        have nq : q_11 ≠ q_29 := fr_ne hq_29 k2
        refine V.cs (k' := 1 + (i + 1)) (n' := N + 6 * (i + 1)) (by omega) (by omega) ?_
        refine V.pick (lv' := [(2, .int (nI (i + 1))), (0, .ref ln), (1, .int (nI N))]) [0, 1, 2] rfl ?_
        refine ih (i + 1) _ (va_up a i q_29) (by omega) (by omega) ((mset_ne nl).trans ((mset_ne (fr_ne hq_29 k1)).trans k1)) (mset_self _ _ _) ?_ ?_ ?_ ?_
        · intro j hj
          by_cases cj : j = i
          · subst cj; rw [va_up_self, mset_ne (Ne.symm nq), mset_self]
          · rw [va_up_ne _ _ cj, mset_ne (Nat.ne_of_gt (k5 j (by omega))), mset_ne (fr_ne hq_29 (k4 j (by omega)))]; exact k4 j (by omega)
        · intro b e hb he
          rw [mset_ne (Nat.ne_of_lt (oq_11' b e he)), mset_ne (fr_ne hq_29 (k3 b e hb he))]; exact k3 b e hb he
        · intro j hj
          by_cases cj : j = i
          · subst cj; rw [va_up_self]; exact oq_29 _ _ k2
          · rw [va_up_ne _ _ cj]; exact k5 j (by omega)
        · intro j j' h1 h2
          rw [va_up_ne _ _ (show j ≠ i by omega)]
          by_cases cj : j' = i
          · subst cj; rw [va_up_self]; exact oq_29 _ _ (k4 j (by omega))
          · rw [va_up_ne _ _ cj]; exact k6 j j' h1 (by omega)
  refine V.pick (lv' := [(2, .int (nI 0)), (0, .ref ln), (1, .int (nI N))]) [0, 1, 2] (by rw [nI_0]; rfl) (V.cs (k' := 1 + 0) (n' := N + 6 * 0) rfl (by omega) ?_)
  exact L (N + 1) 0 M1 (fun _ => 0) (by omega) (by omega) k1 (by rw [k2]; congr 2) (fun j hj => absurd hj (Nat.not_lt_zero j)) k3 (fun j hj => absurd hj (Nat.not_lt_zero j)) (fun j j' _ hj => absurd hj (Nat.not_lt_zero j'))
set_option maxHeartbeats 4000000 in
set_option maxRecDepth 100000 in
theorem ct_St_init {D : va_G} {l : Launch} {cI cZ cR cM : ClassId} {M : Mem} {st : Nat} (rm : Nat) (hr : rm ≤ 6) (h1 : M st = some (ob 3 [.int 0, .null, .null, .null, .int 0])) : Ct TT D cls (tyL cI cZ cR cM) l y_St_init b_St_init 2 none 1 24 3 30 [.ref st, .int (nI rm)] M (fun rv M' => rv = none ∧ ∃ dk cb cv : Nat, (∀ b e, b ≠ st → M b = some e → b < dk) ∧ st < dk ∧ dk < cb ∧ cb < cv ∧ M' st = some (ob 3 [.int (nI rm), .ref dk, .ref cb, .ref cv, .int 0]) ∧ M' dk = some (aI cI 16 (fun _ => 0)) ∧ M' cb = some (aI cI (rm + 1) (fun _ => 0)) ∧ M' cv = some (aI cI (rm + 1) (fun _ => 0)) ∧ (∀ b e, b ≠ st → M b = some e → M' b = some e)) := by
  refine ct_of "BlockTargetSession$Store" rfl (by decide) (Nat.le_of_ble_eq_true rfl) ?_
  intro Z hl hD hnm hQ C
  subst hl
  subst hD
  show V cls 2 (rmOf 1 24 3 30) Z 0 [(0, .ref st), (1, .int (nI rm))] [] M 0 0
  refine v_aload_n C (i := 0) d_St_init_0 rfl rfl ?_
  refine v_objInit C w_79 w_15 w_16 (Nat.le_of_ble_eq_true rfl) (Nat.le_of_ble_eq_true rfl) d_St_init_1 ?_
  refine v_aload_n C (i := 0) d_St_init_4 rfl rfl ?_
  refine v_bipush C (v := 16) d_St_init_5 (by decide) ?_
  refine v_newa C w_98 0 rfl (N := 16) (by decide) (by decide) (by omega) (by decide) (by decide) d_St_init_7 (fun q_7 hq_7 oq_7 => ?_)
  refine V.eqst (st' := [.ref q_7, .ref st]) rfl (V.cs (k' := 1) (n' := 16) rfl rfl ?_)
  have lstq_7 : st < q_7 := oq_7 _ _ h1
  have fq_7 : ∀ b e, b ≠ st → M b = some e → b < q_7 := fun b e hb he => oq_7 _ _ ((fun b e _ he => he) b e hb he)
  have kst : (mset M q_7 (aI cI 16 (fun _ => 0))) st = some (ob 3 [.int 0, .null, .null, .null, .int 0]) := (mset_ne (fr_ne hq_7 h1)).trans h1
  have kq_7 : (mset M q_7 (aI cI 16 (fun _ => 0))) q_7 = some (aI cI 16 (fun _ => 0)) := mset_self _ _ _
  have kf : ∀ b e, b ≠ st → M b = some e → (mset M q_7 (aI cI 16 (fun _ => 0))) b = some e := fun b e hb he => by rw [mset_ne (fr_ne hq_7 ((fun b e _ he => he) b e hb he))]; exact (fun b e _ he => he) b e hb he
  revert kst kq_7 kf
  generalize mset M q_7 (aI cI 16 (fun _ => 0)) = M1
  intro kst kq_7 kf
  refine v_putF C in_St t_St to_St nm_St kst cl_St 1 (by decide) (fs' := [.int 0, .ref q_7, .null, .null, .int 0]) w_81 rfl rfl hnm rfl rfl rfl (Nat.le_of_ble_eq_true rfl) rfl d_St_init_9 ?_
  have kq_7 : (mset M1 st (ob 3 [.int 0, .ref q_7, .null, .null, .int 0])) q_7 = some (aI cI 16 (fun _ => 0)) := (mset_ne (mne kq_7 kst rfl)).trans kq_7
  have kst : (mset M1 st (ob 3 [.int 0, .ref q_7, .null, .null, .int 0])) st = some (ob 3 [.int 0, .ref q_7, .null, .null, .int 0]) := mset_self _ _ _
  have kf : ∀ b e, b ≠ st → M b = some e → (mset M1 st (ob 3 [.int 0, .ref q_7, .null, .null, .int 0])) b = some e := fun b e hb he => by rw [mset_ne hb]; exact kf b e hb he
  revert kq_7 kst kf
  generalize mset M1 st (ob 3 [.int 0, .ref q_7, .null, .null, .int 0]) = M1
  intro kq_7 kst kf
  refine v_aload_n C (i := 0) d_St_init_12 rfl rfl ?_
  refine v_iconst C (v := 0) d_St_init_13 (by decide) ?_
  refine v_put C in_St t_St to_St nm_St kst cl_St 4 (by decide) (fs' := [.int 0, .ref q_7, .null, .null, .int 0]) w_85 rfl rfl rfl rfl (Nat.le_of_ble_eq_true rfl) rfl d_St_init_14 ?_
  have kq_7 : (mset M1 st (ob 3 [.int 0, .ref q_7, .null, .null, .int 0])) q_7 = some (aI cI 16 (fun _ => 0)) := (mset_ne (mne kq_7 kst rfl)).trans kq_7
  have kst : (mset M1 st (ob 3 [.int 0, .ref q_7, .null, .null, .int 0])) st = some (ob 3 [.int 0, .ref q_7, .null, .null, .int 0]) := mset_self _ _ _
  have kf : ∀ b e, b ≠ st → M b = some e → (mset M1 st (ob 3 [.int 0, .ref q_7, .null, .null, .int 0])) b = some e := fun b e hb he => by rw [mset_ne hb]; exact kf b e hb he
  revert kq_7 kst kf
  generalize mset M1 st (ob 3 [.int 0, .ref q_7, .null, .null, .int 0]) = M1
  intro kq_7 kst kf
  refine v_aload_n C (i := 0) d_St_init_17 rfl rfl ?_
  refine v_iload_n C (i := 1) d_St_init_18 rfl rfl ?_
  refine v_putF C in_St t_St to_St nm_St kst cl_St 0 (by decide) (fs' := [.int (nI rm), .ref q_7, .null, .null, .int 0]) w_80 rfl rfl hnm rfl rfl rfl (Nat.le_of_ble_eq_true rfl) rfl d_St_init_19 ?_
  have kq_7 : (mset M1 st (ob 3 [.int (nI rm), .ref q_7, .null, .null, .int 0])) q_7 = some (aI cI 16 (fun _ => 0)) := (mset_ne (mne kq_7 kst rfl)).trans kq_7
  have kst : (mset M1 st (ob 3 [.int (nI rm), .ref q_7, .null, .null, .int 0])) st = some (ob 3 [.int (nI rm), .ref q_7, .null, .null, .int 0]) := mset_self _ _ _
  have kf : ∀ b e, b ≠ st → M b = some e → (mset M1 st (ob 3 [.int (nI rm), .ref q_7, .null, .null, .int 0])) b = some e := fun b e hb he => by rw [mset_ne hb]; exact kf b e hb he
  revert kq_7 kst kf
  generalize mset M1 st (ob 3 [.int (nI rm), .ref q_7, .null, .null, .int 0]) = M1
  intro kq_7 kst kf
  refine v_aload_n C (i := 0) d_St_init_22 rfl rfl ?_
  refine v_iload_n C (i := 1) d_St_init_23 rfl rfl ?_
  refine v_iconst C (v := 1) d_St_init_24 (by decide) ?_
  refine v_iadd C d_St_init_25 ?_
  refine V.eqst (st' := [.int (nI (rm + 1)), .ref st]) (by rw [nI_1]) ?_
  refine v_newa C w_98 0 rfl (N := rm + 1) (nI_pos (by omega)) (pk_cl (rm + 1)) (by omega) (by decide) (by show 16 + (rm + 1) ≤ 30; omega) d_St_init_26 (fun q_26 hq_26 oq_26 => ?_)
  refine V.eqst (st' := [.ref q_26, .ref st]) rfl (V.cs (k' := 2) (n' := 16 + (rm + 1)) rfl rfl ?_)
  have lstq_26 : st < q_26 := oq_26 _ _ kst
  have lq_7q_26 : q_7 < q_26 := oq_26 _ _ kq_7
  have fq_26 : ∀ b e, b ≠ st → M b = some e → b < q_26 := fun b e hb he => oq_26 _ _ (kf b e hb he)
  have kst : (mset M1 q_26 (aI cI (rm + 1) (fun _ => 0))) st = some (ob 3 [.int (nI rm), .ref q_7, .null, .null, .int 0]) := (mset_ne (fr_ne hq_26 kst)).trans kst
  have kq_7 : (mset M1 q_26 (aI cI (rm + 1) (fun _ => 0))) q_7 = some (aI cI 16 (fun _ => 0)) := (mset_ne (fr_ne hq_26 kq_7)).trans kq_7
  have kq_26 : (mset M1 q_26 (aI cI (rm + 1) (fun _ => 0))) q_26 = some (aI cI (rm + 1) (fun _ => 0)) := mset_self _ _ _
  have kf : ∀ b e, b ≠ st → M b = some e → (mset M1 q_26 (aI cI (rm + 1) (fun _ => 0))) b = some e := fun b e hb he => by rw [mset_ne (fr_ne hq_26 (kf b e hb he))]; exact kf b e hb he
  revert kst kq_7 kq_26 kf
  generalize mset M1 q_26 (aI cI (rm + 1) (fun _ => 0)) = M1
  intro kst kq_7 kq_26 kf
  refine v_putF C in_St t_St to_St nm_St kst cl_St 2 (by decide) (fs' := [.int (nI rm), .ref q_7, .ref q_26, .null, .int 0]) w_83 rfl rfl hnm rfl rfl rfl (Nat.le_of_ble_eq_true rfl) rfl d_St_init_28 ?_
  have kq_7 : (mset M1 st (ob 3 [.int (nI rm), .ref q_7, .ref q_26, .null, .int 0])) q_7 = some (aI cI 16 (fun _ => 0)) := (mset_ne (mne kq_7 kst rfl)).trans kq_7
  have kq_26 : (mset M1 st (ob 3 [.int (nI rm), .ref q_7, .ref q_26, .null, .int 0])) q_26 = some (aI cI (rm + 1) (fun _ => 0)) := (mset_ne (mne kq_26 kst rfl)).trans kq_26
  have kst : (mset M1 st (ob 3 [.int (nI rm), .ref q_7, .ref q_26, .null, .int 0])) st = some (ob 3 [.int (nI rm), .ref q_7, .ref q_26, .null, .int 0]) := mset_self _ _ _
  have kf : ∀ b e, b ≠ st → M b = some e → (mset M1 st (ob 3 [.int (nI rm), .ref q_7, .ref q_26, .null, .int 0])) b = some e := fun b e hb he => by rw [mset_ne hb]; exact kf b e hb he
  revert kq_7 kq_26 kst kf
  generalize mset M1 st (ob 3 [.int (nI rm), .ref q_7, .ref q_26, .null, .int 0]) = M1
  intro kq_7 kq_26 kst kf
  refine v_aload_n C (i := 0) d_St_init_31 rfl rfl ?_
  refine v_iload_n C (i := 1) d_St_init_32 rfl rfl ?_
  refine v_iconst C (v := 1) d_St_init_33 (by decide) ?_
  refine v_iadd C d_St_init_34 ?_
  refine V.eqst (st' := [.int (nI (rm + 1)), .ref st]) (by rw [nI_1]) ?_
  refine v_newa C w_98 0 rfl (N := rm + 1) (nI_pos (by omega)) (pk_cl (rm + 1)) (by omega) (by decide) (by show 16 + (rm + 1) + (rm + 1) ≤ 30; omega) d_St_init_35 (fun q_35 hq_35 oq_35 => ?_)
  refine V.eqst (st' := [.ref q_35, .ref st]) rfl (V.cs (k' := 3) (n' := 16 + (rm + 1) + (rm + 1)) rfl rfl ?_)
  have lstq_35 : st < q_35 := oq_35 _ _ kst
  have lq_7q_35 : q_7 < q_35 := oq_35 _ _ kq_7
  have lq_26q_35 : q_26 < q_35 := oq_35 _ _ kq_26
  have fq_35 : ∀ b e, b ≠ st → M b = some e → b < q_35 := fun b e hb he => oq_35 _ _ (kf b e hb he)
  have kst : (mset M1 q_35 (aI cI (rm + 1) (fun _ => 0))) st = some (ob 3 [.int (nI rm), .ref q_7, .ref q_26, .null, .int 0]) := (mset_ne (fr_ne hq_35 kst)).trans kst
  have kq_7 : (mset M1 q_35 (aI cI (rm + 1) (fun _ => 0))) q_7 = some (aI cI 16 (fun _ => 0)) := (mset_ne (fr_ne hq_35 kq_7)).trans kq_7
  have kq_26 : (mset M1 q_35 (aI cI (rm + 1) (fun _ => 0))) q_26 = some (aI cI (rm + 1) (fun _ => 0)) := (mset_ne (fr_ne hq_35 kq_26)).trans kq_26
  have kq_35 : (mset M1 q_35 (aI cI (rm + 1) (fun _ => 0))) q_35 = some (aI cI (rm + 1) (fun _ => 0)) := mset_self _ _ _
  have kf : ∀ b e, b ≠ st → M b = some e → (mset M1 q_35 (aI cI (rm + 1) (fun _ => 0))) b = some e := fun b e hb he => by rw [mset_ne (fr_ne hq_35 (kf b e hb he))]; exact kf b e hb he
  revert kst kq_7 kq_26 kq_35 kf
  generalize mset M1 q_35 (aI cI (rm + 1) (fun _ => 0)) = M1
  intro kst kq_7 kq_26 kq_35 kf
  refine v_putF C in_St t_St to_St nm_St kst cl_St 3 (by decide) (fs' := [.int (nI rm), .ref q_7, .ref q_26, .ref q_35, .int 0]) w_84 rfl rfl hnm rfl rfl rfl (Nat.le_of_ble_eq_true rfl) rfl d_St_init_37 ?_
  have kq_7 : (mset M1 st (ob 3 [.int (nI rm), .ref q_7, .ref q_26, .ref q_35, .int 0])) q_7 = some (aI cI 16 (fun _ => 0)) := (mset_ne (mne kq_7 kst rfl)).trans kq_7
  have kq_26 : (mset M1 st (ob 3 [.int (nI rm), .ref q_7, .ref q_26, .ref q_35, .int 0])) q_26 = some (aI cI (rm + 1) (fun _ => 0)) := (mset_ne (mne kq_26 kst rfl)).trans kq_26
  have kq_35 : (mset M1 st (ob 3 [.int (nI rm), .ref q_7, .ref q_26, .ref q_35, .int 0])) q_35 = some (aI cI (rm + 1) (fun _ => 0)) := (mset_ne (mne kq_35 kst rfl)).trans kq_35
  have kst : (mset M1 st (ob 3 [.int (nI rm), .ref q_7, .ref q_26, .ref q_35, .int 0])) st = some (ob 3 [.int (nI rm), .ref q_7, .ref q_26, .ref q_35, .int 0]) := mset_self _ _ _
  have kf : ∀ b e, b ≠ st → M b = some e → (mset M1 st (ob 3 [.int (nI rm), .ref q_7, .ref q_26, .ref q_35, .int 0])) b = some e := fun b e hb he => by rw [mset_ne hb]; exact kf b e hb he
  revert kq_7 kq_26 kq_35 kst kf
  generalize mset M1 st (ob 3 [.int (nI rm), .ref q_7, .ref q_26, .ref q_35, .int 0]) = M1
  intro kq_7 kq_26 kq_35 kst kf
  exact v_vret hQ C rfl d_St_init_40 (by omega) (by omega) ⟨rfl, q_7, q_26, q_35, fq_7, lstq_7, lq_7q_26, lq_26q_35, kst, kq_7, kq_26, kq_35, kf⟩
