abbrev adL (o rq l1 s1 l2 s2 s dk cb cv : Nat) (a b : Nat → Nat) : List Nat := [o, rq, l1, s1, a 0, a 1, a 2, a 3, l2, s2, b 0, b 1, b 2, b 3, b 4, b 5, b 6, b 7, b 8, b 9, b 10, b 11, b 12, b 13, b 14, b 15, s, dk, cb, cv]
abbrev brL : List Nat := [0, 26, 27, 28, 29, 1, 2, 3, 8, 9, 4, 5, 6, 7, 10, 11, 12, 13, 14, 15, 16, 17, 18, 19, 20, 21, 22, 23, 24, 25]
def adF (L : List Nat) : Nat → Nat := fun t => L.getD (brL.getD t 0) 0
theorem mono_step {g : Nat → Nat} {n : Nat} (h : ∀ k, k < n → g k < g (k + 1)) : ∀ i j, i < j → j ≤ n → g i < g j := by
  intro i j hij hj
  induction j with
  | zero => omega
  | succ j ih =>
    by_cases c : i = j
    · subst c; exact h i (by omega)
    · exact Nat.lt_trans (ih (by omega) (by omega)) (h j (by omega))
theorem brL_inj : ∀ t, t < 30 → ∀ t', t' < 30 → brL.getD t 0 = brL.getD t' 0 → t = t' := by decide +kernel
theorem brL_lt : ∀ t, t < 30 → brL.getD t 0 < 30 := by decide +kernel
set_option maxRecDepth 100000 in
theorem adF_inj {o rq l1 s1 l2 s2 s dk cb cv : Nat} {a b : Nat → Nat} (c1 : o < rq) (c2 : rq < l1) (c3 : l1 < s1) (c4 : ∀ j, j < 4 → s1 < a j) (c5 : ∀ j j', j < j' → j' < 4 → a j < a j') (c6 : ∀ j, j < 4 → a j < l2) (c7 : l2 < s2) (c8 : ∀ j, j < 16 → s2 < b j) (c9 : ∀ j j', j < j' → j' < 16 → b j < b j') (c10 : ∀ j, j < 16 → b j < s) (c11 : s < dk) (c12 : dk < cb) (c13 : cb < cv) : ∀ t t', t < 30 → t' < 30 → adF (adL o rq l1 s1 l2 s2 s dk cb cv a b) t = adF (adL o rq l1 s1 l2 s2 s dk cb cv a b) t' → t = t' := by
  have st : ∀ k, k < 29 → (adL o rq l1 s1 l2 s2 s dk cb cv a b).getD k 0 < (adL o rq l1 s1 l2 s2 s dk cb cv a b).getD (k + 1) 0 := by
    intro k hk
    rcases (show k = 0 ∨ k = 1 ∨ k = 2 ∨ k = 3 ∨ k = 4 ∨ k = 5 ∨ k = 6 ∨ k = 7 ∨ k = 8 ∨ k = 9 ∨ k = 10 ∨ k = 11 ∨ k = 12 ∨ k = 13 ∨ k = 14 ∨ k = 15 ∨ k = 16 ∨ k = 17 ∨ k = 18 ∨ k = 19 ∨ k = 20 ∨ k = 21 ∨ k = 22 ∨ k = 23 ∨ k = 24 ∨ k = 25 ∨ k = 26 ∨ k = 27 ∨ k = 28 by omega) with rfl | rfl | rfl | rfl | rfl | rfl | rfl | rfl | rfl | rfl | rfl | rfl | rfl | rfl | rfl | rfl | rfl | rfl | rfl | rfl | rfl | rfl | rfl | rfl | rfl | rfl | rfl | rfl | rfl
    · exact c1
    · exact c2
    · exact c3
    · exact c4 0 (by decide)
    · exact c5 0 1 (by decide) (by decide)
    · exact c5 1 2 (by decide) (by decide)
    · exact c5 2 3 (by decide) (by decide)
    · exact c6 3 (by decide)
    · exact c7
    · exact c8 0 (by decide)
    · exact c9 0 1 (by decide) (by decide)
    · exact c9 1 2 (by decide) (by decide)
    · exact c9 2 3 (by decide) (by decide)
    · exact c9 3 4 (by decide) (by decide)
    · exact c9 4 5 (by decide) (by decide)
    · exact c9 5 6 (by decide) (by decide)
    · exact c9 6 7 (by decide) (by decide)
    · exact c9 7 8 (by decide) (by decide)
    · exact c9 8 9 (by decide) (by decide)
    · exact c9 9 10 (by decide) (by decide)
    · exact c9 10 11 (by decide) (by decide)
    · exact c9 11 12 (by decide) (by decide)
    · exact c9 12 13 (by decide) (by decide)
    · exact c9 13 14 (by decide) (by decide)
    · exact c9 14 15 (by decide) (by decide)
    · exact c10 15 (by decide)
    · exact c11
    · exact c12
    · exact c13
  have mo := mono_step (g := fun k => (adL o rq l1 s1 l2 s2 s dk cb cv a b).getD k 0) st
  intro t t' ht ht' e
  refine brL_inj t ht t' ht' ?_
  have b1 := brL_lt t ht
  have b2 := brL_lt t' ht'
  rcases Nat.lt_trichotomy (brL.getD t 0) (brL.getD t' 0) with z | z | z
  · exact absurd e (Nat.ne_of_lt (mo _ _ z (by omega)))
  · exact z
  · exact absurd e.symm (Nat.ne_of_lt (mo _ _ z (by omega)))
def G10 (w : Int32) (rm : Nat) : G1 := (va_up (fun _ => 0) 4 rm, va_up (fun _ => 0) 0 w, fun _ _ => 0, fun _ _ => 0)
set_option maxRecDepth 100000 in
theorem R1.start {cI cR cM : ClassId} {M : Mem} {o rq l1 s1 l2 s2 s dk cb cv : Nat} {a b : Nat → Nat} (w : Int32) (rm : Nat) (c1 : o < rq) (c2 : rq < l1) (c3 : l1 < s1) (c4 : ∀ j, j < 4 → s1 < a j) (c5 : ∀ j j', j < j' → j' < 4 → a j < a j') (c6 : ∀ j, j < 4 → a j < l2) (c7 : l2 < s2) (c8 : ∀ j, j < 16 → s2 < b j) (c9 : ∀ j j', j < j' → j' < 16 → b j < b j') (c10 : ∀ j, j < 16 → b j < s) (c11 : s < dk) (c12 : dk < cb) (c13 : cb < cv)
    (k0 : M o = some (ob 4 [.int w, .ref s, .ref rq, .int 0, .ref l1, .ref l2, .int 0, .int 0, .int 0, .int 0, .int 0])) (k1 : M s = some (ob 3 [.int (nI rm), .ref dk, .ref cb, .ref cv, .int 0])) (k2 : M dk = some (aI cI 16 (fun _ => 0))) (k3 : M cb = some (aI cI (rm + 1) (fun _ => 0))) (k4 : M cv = some (aI cI (rm + 1) (fun _ => 0))) (k5 : M rq = some (aQ cR 120 (fun _ => none)))
    (k6 : M l1 = some (ob 0 [.ref s1, .int 0])) (k7 : M s1 = some (aQ cM 4 (fun j => if j < 4 then some (a j) else none))) (k8 : M l2 = some (ob 0 [.ref s2, .int 0])) (k9 : M s2 = some (aQ cM 16 (fun j => if j < 16 then some (b j) else none))) (k10 : ∀ j, j < 4 → M (a j) = some (ob 1 [.int 0, .int 0, .int 0, .int 0, .int 0, .int 0])) (k11 : ∀ j, j < 16 → M (b j) = some (ob 1 [.int 0, .int 0, .int 0, .int 0, .int 0, .int 0])) :
    ∃ ad : Nat → Nat, ad 0 = o ∧ R1 cI cR cM M ad (G10 w rm) := by
  have ea : ∀ j, j < 4 → adF (adL o rq l1 s1 l2 s2 s dk cb cv a b) (10 + j) = a j := by
    intro j hj
    rcases (show j = 0 ∨ j = 1 ∨ j = 2 ∨ j = 3 by omega) with rfl | rfl | rfl | rfl <;> rfl
  have eb : ∀ j, j < 16 → adF (adL o rq l1 s1 l2 s2 s dk cb cv a b) (14 + j) = b j := by
    intro j hj
    rcases (show j = 0 ∨ j = 1 ∨ j = 2 ∨ j = 3 ∨ j = 4 ∨ j = 5 ∨ j = 6 ∨ j = 7 ∨ j = 8 ∨ j = 9 ∨ j = 10 ∨ j = 11 ∨ j = 12 ∨ j = 13 ∨ j = 14 ∨ j = 15 by omega) with rfl | rfl | rfl | rfl | rfl | rfl | rfl | rfl | rfl | rfl | rfl | rfl | rfl | rfl | rfl | rfl <;> rfl
  refine ⟨adF (adL o rq l1 s1 l2 s2 s dk cb cv a b), rfl, ?_, ?_, k1, k2, k3, k4, ?_, ?_, ?_, ?_, ?_, ?_⟩
  · exact adF_inj c1 c2 c3 c4 c5 c6 c7 c8 c9 c10 c11 c12 c13
  · exact k0
  · refine k5.trans ?_
    congr 2
  · intro x hx
    rcases (show x = 0 ∨ x = 1 by omega) with rfl | rfl
    · exact k6
    · exact k8
  · intro x hx
    rcases (show x = 0 ∨ x = 1 by omega) with rfl | rfl
    · refine k7.trans ?_
      congr 2
      congr 6
      funext j
      by_cases c : j < 4
      · rw [if_pos c]
        exact (congrArg some (ea j c)).symm.trans (if_pos (show j < cap 0 from c)).symm
      · rw [if_neg c]
        exact (if_neg (show ¬ j < cap 0 from c)).symm
    · refine k9.trans ?_
      congr 2
      congr 6
      funext j
      by_cases c : j < 16
      · rw [if_pos c]
        exact (congrArg some (eb j c)).symm.trans (if_pos (show j < cap 1 from c)).symm
      · rw [if_neg c]
        exact (if_neg (show ¬ j < cap 1 from c)).symm
  · intro x j hx hj
    rcases (show x = 0 ∨ x = 1 by omega) with rfl | rfl
    · show M (adF _ (10 + j)) = _
      rw [ea j hj]
      exact k10 j hj
    · show M (adF _ (14 + j)) = _
      rw [eb j hj]
      exact k11 j hj
  · intro i hi
    exact absurd hi (Nat.not_lt_zero i)
  · intro i hi
    exact absurd hi (Nat.not_lt_zero i)
theorem clamp_rm (y : Int32) : ∃ rm : Nat, 1 ≤ rm ∧ rm ≤ 6 ∧ clampI y 1 6 = nI rm := by
  unfold clampI
  by_cases h : y < 6
  · rw [if_pos h]
    by_cases h2 : 1 < y
    · rw [if_pos h2]
      rcases pk_ix y (n := 7) (by decide) with z | z | ⟨j, hj, e⟩
      · exact absurd (ts_neg z) (by have := Int32.lt_iff_toInt_lt.mp h2; have e1 : (1 : Int32).toInt = 1 := rfl; omega)
      · exact absurd (ts_big (n := 6) z (by decide)) (by have := Int32.lt_iff_toInt_lt.mp h; have e1 : (6 : Int32).toInt = 6 := rfl; omega)
      · refine ⟨j, ?_, by omega, e⟩
        subst e
        have := Int32.lt_iff_toInt_lt.mp h2
        rw [nI_toInt (by omega)] at this
        have e1 : (1 : Int32).toInt = 1 := rfl
        omega
    · rw [if_neg h2]
      exact ⟨1, by omega, by omega, rfl⟩
  · rw [if_neg h, if_pos (by decide)]
    exact ⟨6, by omega, by omega, rfl⟩
set_option maxHeartbeats 4000000 in
set_option maxRecDepth 100000 in
theorem ct_Bs_init {D : va_G} {l : Launch} {cI cZ cR cM : ClassId} {M : Mem} {o : Nat} (x y : Int32) (ko : M o = some (ob 4 [.int 0, .null, .null, .int 0, .null, .null, .int 0, .int 0, .int 0, .int 0, .int 0])) : Ct TT D cls (tyL cI cZ cR cM) l y_Bs_init b_Bs_init 3 none 3 66 29 299 [.ref o, .int x, .int y] M (fun rv M' => rv = none ∧ ∃ (ad : Nat → Nat) (rm : Nat), 1 ≤ rm ∧ rm ≤ 6 ∧ clampI y 1 6 = nI rm ∧ ad 0 = o ∧ R1 cI cR cM M' ad (G10 (clampI x 1 4) rm).bg) := by
  refine ct_of "BlockTargetSession" rfl (by decide) (Nat.le_of_ble_eq_true rfl) ?_
  intro Z hl hD hnm hQ C
  subst hl
  subst hD
  show V cls 3 (rmOf 3 66 29 299) Z 0 [(0, .ref o), (1, .int x), (2, .int y)] [] M 0 0
  refine v_aload_n C (i := 0) d_Bs_init_0 rfl rfl ?_
  refine v_objInit C w_14 w_15 w_16 (Nat.le_of_ble_eq_true rfl) (Nat.le_of_ble_eq_true rfl) d_Bs_init_1 ?_
  refine v_aload_n C (i := 0) d_Bs_init_4 rfl rfl ?_
  refine v_bipush C (v := 120) d_Bs_init_5 (by decide) ?_
  refine v_newq C w_17 w_18 2 rfl (N := 120) (by decide) (by decide) (by omega) (by decide) (by decide) d_Bs_init_7 (fun q_7 hq_7 oq_7 => ?_)
  refine V.eqst (st' := [.ref q_7, .ref o]) rfl (V.cs (k' := 1) (n' := 120) rfl rfl ?_)
  have loq_7 : o < q_7 := oq_7 _ _ ko
  have loq_7 : o < q_7 := oq_7 _ _ ko
  have ko : (mset M q_7 (aQ cR 120 (fun _ => none))) o = some (ob 4 [.int 0, .null, .null, .int 0, .null, .null, .int 0, .int 0, .int 0, .int 0, .int 0]) := (mset_ne (fr_ne hq_7 ko)).trans ko
  have kq_7 : (mset M q_7 (aQ cR 120 (fun _ => none))) q_7 = some (aQ cR 120 (fun _ => none)) := mset_self _ _ _
  revert ko kq_7
  generalize mset M q_7 (aQ cR 120 (fun _ => none)) = M1
  intro ko kq_7
  refine v_putF C in_Bs t_Bs to_Bs nm_Bs ko cl_Bs 2 (by decide) (fs' := [.int 0, .null, .ref q_7, .int 0, .null, .null, .int 0, .int 0, .int 0, .int 0, .int 0]) w_105 rfl rfl hnm rfl rfl rfl (Nat.le_of_ble_eq_true rfl) rfl d_Bs_init_10 ?_
  have kq_7 : (mset M1 o (ob 4 [.int 0, .null, .ref q_7, .int 0, .null, .null, .int 0, .int 0, .int 0, .int 0, .int 0])) q_7 = some (aQ cR 120 (fun _ => none)) := (mset_ne (Nat.ne_of_gt (loq_7))).trans kq_7
  have ko : (mset M1 o (ob 4 [.int 0, .null, .ref q_7, .int 0, .null, .null, .int 0, .int 0, .int 0, .int 0, .int 0])) o = some (ob 4 [.int 0, .null, .ref q_7, .int 0, .null, .null, .int 0, .int 0, .int 0, .int 0, .int 0]) := mset_self _ _ _
  revert kq_7 ko
  generalize mset M1 o (ob 4 [.int 0, .null, .ref q_7, .int 0, .null, .null, .int 0, .int 0, .int 0, .int 0, .int 0]) = M1
  intro kq_7 ko
  refine v_aload_n C (i := 0) d_Bs_init_13 rfl rfl ?_
  refine v_iconst C (v := 0) d_Bs_init_14 (by decide) ?_
  refine v_put C in_Bs t_Bs to_Bs nm_Bs ko cl_Bs 3 (by decide) (fs' := [.int 0, .null, .ref q_7, .int 0, .null, .null, .int 0, .int 0, .int 0, .int 0, .int 0]) w_106 rfl rfl rfl rfl (Nat.le_of_ble_eq_true rfl) rfl d_Bs_init_15 ?_
  have kq_7 : (mset M1 o (ob 4 [.int 0, .null, .ref q_7, .int 0, .null, .null, .int 0, .int 0, .int 0, .int 0, .int 0])) q_7 = some (aQ cR 120 (fun _ => none)) := (mset_ne (Nat.ne_of_gt (loq_7))).trans kq_7
  have ko : (mset M1 o (ob 4 [.int 0, .null, .ref q_7, .int 0, .null, .null, .int 0, .int 0, .int 0, .int 0, .int 0])) o = some (ob 4 [.int 0, .null, .ref q_7, .int 0, .null, .null, .int 0, .int 0, .int 0, .int 0, .int 0]) := mset_self _ _ _
  revert kq_7 ko
  generalize mset M1 o (ob 4 [.int 0, .null, .ref q_7, .int 0, .null, .null, .int 0, .int 0, .int 0, .int 0, .int 0]) = M1
  intro kq_7 ko
  refine v_aload_n C (i := 0) d_Bs_init_18 rfl rfl ?_
  refine v_new C (fs := [.null, .int 0]) in_Ln t_Ln to_Ln w_19 w_20 w_2 cl_Ln (fun j hj => by rcases (show j = 0 ∨ j = 1 by omega) with rfl | rfl <;> rfl) (by decide) (by decide) d_Bs_init_19 (fun q_19 hq_19 oq_19 => ?_)
  refine V.eqst (st' := [.ref q_19, .ref o]) rfl (V.cs (k' := 2) (n' := 122) rfl rfl ?_)
  have loq_19 : o < q_19 := oq_19 _ _ ko
  have lq_7q_19 : q_7 < q_19 := oq_19 _ _ kq_7
  have loq_19 : o < q_19 := oq_19 _ _ ko
  have ko : (mset M1 q_19 (ob 0 [.null, .int 0])) o = some (ob 4 [.int 0, .null, .ref q_7, .int 0, .null, .null, .int 0, .int 0, .int 0, .int 0, .int 0]) := (mset_ne (fr_ne hq_19 ko)).trans ko
  have kq_7 : (mset M1 q_19 (ob 0 [.null, .int 0])) q_7 = some (aQ cR 120 (fun _ => none)) := (mset_ne (fr_ne hq_19 kq_7)).trans kq_7
  have kq_19 : (mset M1 q_19 (ob 0 [.null, .int 0])) q_19 = some (ob 0 [.null, .int 0]) := mset_self _ _ _
  revert ko kq_7 kq_19
  generalize mset M1 q_19 (ob 0 [.null, .int 0]) = M1
  intro ko kq_7 kq_19
  refine v_dup C d_Bs_init_22 rfl ?_
  refine v_iconst C (v := 4) d_Bs_init_23 (by decide) ?_
  refine v_callI C (As := [.int 4]) (rest := [.ref q_19, .ref o]) rfl w_22 (ct_Ln_init 4 (by decide) kq_19) (Nat.le_of_ble_eq_true rfl) (Nat.le_of_ble_eq_true rfl) w_23 w_2 hy_Ln_init w_21 rfl (Nat.le_of_ble_eq_true rfl) ⟨by decide, by decide⟩ d_Bs_init_24 (fun rv M hp => ?_)
  obtain ⟨rfl, s1, a1, p1, lsla1, lma1, p2, p3, p4, p5⟩ := hp
  have los1 : o < s1 := p1 _ _ ko
  have lq_7s1 : q_7 < s1 := p1 _ _ kq_7
  have lq_19s1 : q_19 < s1 := p1 _ _ kq_19
  have los1 : o < s1 := p1 _ _ ko
  have loa1 : ∀ j, j < 4 → o < a1 j := fun j hj => Nat.lt_trans los1 (lsla1 j hj)
  have ko := p5 _ _ (Nat.ne_of_lt loq_19) ko
  have kq_7 := p5 _ _ (Nat.ne_of_lt lq_7q_19) kq_7
  have kq_19 := p2
  have ks1 := p3
  have ka1 := p4
  refine V.eqst (st' := [.ref q_19, .ref o]) rfl (V.cs (k' := 7) (n' := 150) rfl rfl ?_)
  refine v_putF C in_Bs t_Bs to_Bs nm_Bs ko cl_Bs 4 (by decide) (fs' := [.int 0, .null, .ref q_7, .int 0, .ref q_19, .null, .int 0, .int 0, .int 0, .int 0, .int 0]) w_107 rfl rfl hnm rfl rfl rfl (Nat.le_of_ble_eq_true rfl) rfl d_Bs_init_27 ?_
  have kq_7 : (mset M o (ob 4 [.int 0, .null, .ref q_7, .int 0, .ref q_19, .null, .int 0, .int 0, .int 0, .int 0, .int 0])) q_7 = some (aQ cR 120 (fun _ => none)) := (mset_ne (Nat.ne_of_gt (loq_7))).trans kq_7
  have kq_19 : (mset M o (ob 4 [.int 0, .null, .ref q_7, .int 0, .ref q_19, .null, .int 0, .int 0, .int 0, .int 0, .int 0])) q_19 = some (ob 0 [.ref s1, .int 0]) := (mset_ne (Nat.ne_of_gt (loq_19))).trans kq_19
  have ks1 : (mset M o (ob 4 [.int 0, .null, .ref q_7, .int 0, .ref q_19, .null, .int 0, .int 0, .int 0, .int 0, .int 0])) s1 = some (aQ cM 4 (fun j => if j < 4 then some (a1 j) else none)) := (mset_ne (Nat.ne_of_gt (los1))).trans ks1
  have ka1 : ∀ j, j < 4 → (mset M o (ob 4 [.int 0, .null, .ref q_7, .int 0, .ref q_19, .null, .int 0, .int 0, .int 0, .int 0, .int 0])) (a1 j) = some (ob 1 [.int 0, .int 0, .int 0, .int 0, .int 0, .int 0]) := fun j hj => (mset_ne (Nat.ne_of_gt (loa1 j hj))).trans (ka1 j hj)
  have ko : (mset M o (ob 4 [.int 0, .null, .ref q_7, .int 0, .ref q_19, .null, .int 0, .int 0, .int 0, .int 0, .int 0])) o = some (ob 4 [.int 0, .null, .ref q_7, .int 0, .ref q_19, .null, .int 0, .int 0, .int 0, .int 0, .int 0]) := mset_self _ _ _
  revert kq_7 kq_19 ks1 ka1 ko
  generalize mset M o (ob 4 [.int 0, .null, .ref q_7, .int 0, .ref q_19, .null, .int 0, .int 0, .int 0, .int 0, .int 0]) = M1
  intro kq_7 kq_19 ks1 ka1 ko
  refine v_aload_n C (i := 0) d_Bs_init_30 rfl rfl ?_
  refine v_new C (fs := [.null, .int 0]) in_Ln t_Ln to_Ln w_19 w_20 w_2 cl_Ln (fun j hj => by rcases (show j = 0 ∨ j = 1 by omega) with rfl | rfl <;> rfl) (by decide) (by decide) d_Bs_init_31 (fun q_31 hq_31 oq_31 => ?_)
  refine V.eqst (st' := [.ref q_31, .ref o]) rfl (V.cs (k' := 8) (n' := 152) rfl rfl ?_)
  have loq_31 : o < q_31 := oq_31 _ _ ko
  have lq_7q_31 : q_7 < q_31 := oq_31 _ _ kq_7
  have lq_19q_31 : q_19 < q_31 := oq_31 _ _ kq_19
  have ls1q_31 : s1 < q_31 := oq_31 _ _ ks1
  have la1q_31 : ∀ j, j < 4 → a1 j < q_31 := fun j hj => oq_31 _ _ (ka1 j hj)
  have loq_31 : o < q_31 := oq_31 _ _ ko
  have ko : (mset M1 q_31 (ob 0 [.null, .int 0])) o = some (ob 4 [.int 0, .null, .ref q_7, .int 0, .ref q_19, .null, .int 0, .int 0, .int 0, .int 0, .int 0]) := (mset_ne (fr_ne hq_31 ko)).trans ko
  have kq_7 : (mset M1 q_31 (ob 0 [.null, .int 0])) q_7 = some (aQ cR 120 (fun _ => none)) := (mset_ne (fr_ne hq_31 kq_7)).trans kq_7
  have kq_19 : (mset M1 q_31 (ob 0 [.null, .int 0])) q_19 = some (ob 0 [.ref s1, .int 0]) := (mset_ne (fr_ne hq_31 kq_19)).trans kq_19
  have ks1 : (mset M1 q_31 (ob 0 [.null, .int 0])) s1 = some (aQ cM 4 (fun j => if j < 4 then some (a1 j) else none)) := (mset_ne (fr_ne hq_31 ks1)).trans ks1
  have ka1 : ∀ j, j < 4 → (mset M1 q_31 (ob 0 [.null, .int 0])) (a1 j) = some (ob 1 [.int 0, .int 0, .int 0, .int 0, .int 0, .int 0]) := fun j hj => (mset_ne (fr_ne hq_31 (ka1 j hj))).trans (ka1 j hj)
  have kq_31 : (mset M1 q_31 (ob 0 [.null, .int 0])) q_31 = some (ob 0 [.null, .int 0]) := mset_self _ _ _
  revert ko kq_7 kq_19 ks1 ka1 kq_31
  generalize mset M1 q_31 (ob 0 [.null, .int 0]) = M1
  intro ko kq_7 kq_19 ks1 ka1 kq_31
  refine v_dup C d_Bs_init_34 rfl ?_
  refine v_bipush C (v := 16) d_Bs_init_35 (by decide) ?_
  refine v_callI C (As := [.int 16]) (rest := [.ref q_31, .ref o]) rfl w_22 (ct_Ln_init 16 (by decide) kq_31) (Nat.le_of_ble_eq_true rfl) (Nat.le_of_ble_eq_true rfl) w_23 w_2 hy_Ln_init w_21 rfl (Nat.le_of_ble_eq_true rfl) ⟨by decide, by decide⟩ d_Bs_init_37 (fun rv M hp => ?_)
  obtain ⟨rfl, s2, a2, p1, lsla2, lma2, p2, p3, p4, p5⟩ := hp
  have los2 : o < s2 := p1 _ _ ko
  have lq_7s2 : q_7 < s2 := p1 _ _ kq_7
  have lq_19s2 : q_19 < s2 := p1 _ _ kq_19
  have ls1s2 : s1 < s2 := p1 _ _ ks1
  have lq_31s2 : q_31 < s2 := p1 _ _ kq_31
  have la1s2 : ∀ j, j < 4 → a1 j < s2 := fun j hj => p1 _ _ (ka1 j hj)
  have los2 : o < s2 := p1 _ _ ko
  have loa2 : ∀ j, j < 16 → o < a2 j := fun j hj => Nat.lt_trans los2 (lsla2 j hj)
  have ko := p5 _ _ (Nat.ne_of_lt loq_31) ko
  have kq_7 := p5 _ _ (Nat.ne_of_lt lq_7q_31) kq_7
  have kq_19 := p5 _ _ (Nat.ne_of_lt lq_19q_31) kq_19
  have ks1 := p5 _ _ (Nat.ne_of_lt ls1q_31) ks1
  have ka1 := fun j (hj : j < 4) => p5 _ _ (Nat.ne_of_lt (la1q_31 j hj)) (ka1 j hj)
  have kq_31 := p2
  have ks2 := p3
  have ka2 := p4
  refine V.eqst (st' := [.ref q_31, .ref o]) rfl (V.cs (k' := 25) (n' := 264) rfl rfl ?_)
  refine v_putF C in_Bs t_Bs to_Bs nm_Bs ko cl_Bs 5 (by decide) (fs' := [.int 0, .null, .ref q_7, .int 0, .ref q_19, .ref q_31, .int 0, .int 0, .int 0, .int 0, .int 0]) w_108 rfl rfl hnm rfl rfl rfl (Nat.le_of_ble_eq_true rfl) rfl d_Bs_init_40 ?_
  have kq_7 : (mset M o (ob 4 [.int 0, .null, .ref q_7, .int 0, .ref q_19, .ref q_31, .int 0, .int 0, .int 0, .int 0, .int 0])) q_7 = some (aQ cR 120 (fun _ => none)) := (mset_ne (Nat.ne_of_gt (loq_7))).trans kq_7
  have kq_19 : (mset M o (ob 4 [.int 0, .null, .ref q_7, .int 0, .ref q_19, .ref q_31, .int 0, .int 0, .int 0, .int 0, .int 0])) q_19 = some (ob 0 [.ref s1, .int 0]) := (mset_ne (Nat.ne_of_gt (loq_19))).trans kq_19
  have ks1 : (mset M o (ob 4 [.int 0, .null, .ref q_7, .int 0, .ref q_19, .ref q_31, .int 0, .int 0, .int 0, .int 0, .int 0])) s1 = some (aQ cM 4 (fun j => if j < 4 then some (a1 j) else none)) := (mset_ne (Nat.ne_of_gt (los1))).trans ks1
  have kq_31 : (mset M o (ob 4 [.int 0, .null, .ref q_7, .int 0, .ref q_19, .ref q_31, .int 0, .int 0, .int 0, .int 0, .int 0])) q_31 = some (ob 0 [.ref s2, .int 0]) := (mset_ne (Nat.ne_of_gt (loq_31))).trans kq_31
  have ks2 : (mset M o (ob 4 [.int 0, .null, .ref q_7, .int 0, .ref q_19, .ref q_31, .int 0, .int 0, .int 0, .int 0, .int 0])) s2 = some (aQ cM 16 (fun j => if j < 16 then some (a2 j) else none)) := (mset_ne (Nat.ne_of_gt (los2))).trans ks2
  have ka1 : ∀ j, j < 4 → (mset M o (ob 4 [.int 0, .null, .ref q_7, .int 0, .ref q_19, .ref q_31, .int 0, .int 0, .int 0, .int 0, .int 0])) (a1 j) = some (ob 1 [.int 0, .int 0, .int 0, .int 0, .int 0, .int 0]) := fun j hj => (mset_ne (Nat.ne_of_gt (loa1 j hj))).trans (ka1 j hj)
  have ka2 : ∀ j, j < 16 → (mset M o (ob 4 [.int 0, .null, .ref q_7, .int 0, .ref q_19, .ref q_31, .int 0, .int 0, .int 0, .int 0, .int 0])) (a2 j) = some (ob 1 [.int 0, .int 0, .int 0, .int 0, .int 0, .int 0]) := fun j hj => (mset_ne (Nat.ne_of_gt (loa2 j hj))).trans (ka2 j hj)
  have ko : (mset M o (ob 4 [.int 0, .null, .ref q_7, .int 0, .ref q_19, .ref q_31, .int 0, .int 0, .int 0, .int 0, .int 0])) o = some (ob 4 [.int 0, .null, .ref q_7, .int 0, .ref q_19, .ref q_31, .int 0, .int 0, .int 0, .int 0, .int 0]) := mset_self _ _ _
  revert kq_7 kq_19 ks1 kq_31 ks2 ka1 ka2 ko
  generalize mset M o (ob 4 [.int 0, .null, .ref q_7, .int 0, .ref q_19, .ref q_31, .int 0, .int 0, .int 0, .int 0, .int 0]) = M1
  intro kq_7 kq_19 ks1 kq_31 ks2 ka1 ka2 ko
  refine v_aload_n C (i := 0) d_Bs_init_43 rfl rfl ?_
  refine v_iconst C (v := 0) d_Bs_init_44 (by decide) ?_
  refine v_put C in_Bs t_Bs to_Bs nm_Bs ko cl_Bs 6 (by decide) (fs' := [.int 0, .null, .ref q_7, .int 0, .ref q_19, .ref q_31, .int 0, .int 0, .int 0, .int 0, .int 0]) w_109 rfl rfl rfl rfl (Nat.le_of_ble_eq_true rfl) rfl d_Bs_init_45 ?_
  have kq_7 : (mset M1 o (ob 4 [.int 0, .null, .ref q_7, .int 0, .ref q_19, .ref q_31, .int 0, .int 0, .int 0, .int 0, .int 0])) q_7 = some (aQ cR 120 (fun _ => none)) := (mset_ne (Nat.ne_of_gt (loq_7))).trans kq_7
  have kq_19 : (mset M1 o (ob 4 [.int 0, .null, .ref q_7, .int 0, .ref q_19, .ref q_31, .int 0, .int 0, .int 0, .int 0, .int 0])) q_19 = some (ob 0 [.ref s1, .int 0]) := (mset_ne (Nat.ne_of_gt (loq_19))).trans kq_19
  have ks1 : (mset M1 o (ob 4 [.int 0, .null, .ref q_7, .int 0, .ref q_19, .ref q_31, .int 0, .int 0, .int 0, .int 0, .int 0])) s1 = some (aQ cM 4 (fun j => if j < 4 then some (a1 j) else none)) := (mset_ne (Nat.ne_of_gt (los1))).trans ks1
  have kq_31 : (mset M1 o (ob 4 [.int 0, .null, .ref q_7, .int 0, .ref q_19, .ref q_31, .int 0, .int 0, .int 0, .int 0, .int 0])) q_31 = some (ob 0 [.ref s2, .int 0]) := (mset_ne (Nat.ne_of_gt (loq_31))).trans kq_31
  have ks2 : (mset M1 o (ob 4 [.int 0, .null, .ref q_7, .int 0, .ref q_19, .ref q_31, .int 0, .int 0, .int 0, .int 0, .int 0])) s2 = some (aQ cM 16 (fun j => if j < 16 then some (a2 j) else none)) := (mset_ne (Nat.ne_of_gt (los2))).trans ks2
  have ka1 : ∀ j, j < 4 → (mset M1 o (ob 4 [.int 0, .null, .ref q_7, .int 0, .ref q_19, .ref q_31, .int 0, .int 0, .int 0, .int 0, .int 0])) (a1 j) = some (ob 1 [.int 0, .int 0, .int 0, .int 0, .int 0, .int 0]) := fun j hj => (mset_ne (Nat.ne_of_gt (loa1 j hj))).trans (ka1 j hj)
  have ka2 : ∀ j, j < 16 → (mset M1 o (ob 4 [.int 0, .null, .ref q_7, .int 0, .ref q_19, .ref q_31, .int 0, .int 0, .int 0, .int 0, .int 0])) (a2 j) = some (ob 1 [.int 0, .int 0, .int 0, .int 0, .int 0, .int 0]) := fun j hj => (mset_ne (Nat.ne_of_gt (loa2 j hj))).trans (ka2 j hj)
  have ko : (mset M1 o (ob 4 [.int 0, .null, .ref q_7, .int 0, .ref q_19, .ref q_31, .int 0, .int 0, .int 0, .int 0, .int 0])) o = some (ob 4 [.int 0, .null, .ref q_7, .int 0, .ref q_19, .ref q_31, .int 0, .int 0, .int 0, .int 0, .int 0]) := mset_self _ _ _
  revert kq_7 kq_19 ks1 kq_31 ks2 ka1 ka2 ko
  generalize mset M1 o (ob 4 [.int 0, .null, .ref q_7, .int 0, .ref q_19, .ref q_31, .int 0, .int 0, .int 0, .int 0, .int 0]) = M1
  intro kq_7 kq_19 ks1 kq_31 ks2 ka1 ka2 ko
  refine v_aload_n C (i := 0) d_Bs_init_48 rfl rfl ?_
  refine v_iconst C (v := 0) d_Bs_init_49 (by decide) ?_
  refine v_put C in_Bs t_Bs to_Bs nm_Bs ko cl_Bs 7 (by decide) (fs' := [.int 0, .null, .ref q_7, .int 0, .ref q_19, .ref q_31, .int 0, .int 0, .int 0, .int 0, .int 0]) w_110 rfl rfl rfl rfl (Nat.le_of_ble_eq_true rfl) rfl d_Bs_init_50 ?_
  have kq_7 : (mset M1 o (ob 4 [.int 0, .null, .ref q_7, .int 0, .ref q_19, .ref q_31, .int 0, .int 0, .int 0, .int 0, .int 0])) q_7 = some (aQ cR 120 (fun _ => none)) := (mset_ne (Nat.ne_of_gt (loq_7))).trans kq_7
  have kq_19 : (mset M1 o (ob 4 [.int 0, .null, .ref q_7, .int 0, .ref q_19, .ref q_31, .int 0, .int 0, .int 0, .int 0, .int 0])) q_19 = some (ob 0 [.ref s1, .int 0]) := (mset_ne (Nat.ne_of_gt (loq_19))).trans kq_19
  have ks1 : (mset M1 o (ob 4 [.int 0, .null, .ref q_7, .int 0, .ref q_19, .ref q_31, .int 0, .int 0, .int 0, .int 0, .int 0])) s1 = some (aQ cM 4 (fun j => if j < 4 then some (a1 j) else none)) := (mset_ne (Nat.ne_of_gt (los1))).trans ks1
  have kq_31 : (mset M1 o (ob 4 [.int 0, .null, .ref q_7, .int 0, .ref q_19, .ref q_31, .int 0, .int 0, .int 0, .int 0, .int 0])) q_31 = some (ob 0 [.ref s2, .int 0]) := (mset_ne (Nat.ne_of_gt (loq_31))).trans kq_31
  have ks2 : (mset M1 o (ob 4 [.int 0, .null, .ref q_7, .int 0, .ref q_19, .ref q_31, .int 0, .int 0, .int 0, .int 0, .int 0])) s2 = some (aQ cM 16 (fun j => if j < 16 then some (a2 j) else none)) := (mset_ne (Nat.ne_of_gt (los2))).trans ks2
  have ka1 : ∀ j, j < 4 → (mset M1 o (ob 4 [.int 0, .null, .ref q_7, .int 0, .ref q_19, .ref q_31, .int 0, .int 0, .int 0, .int 0, .int 0])) (a1 j) = some (ob 1 [.int 0, .int 0, .int 0, .int 0, .int 0, .int 0]) := fun j hj => (mset_ne (Nat.ne_of_gt (loa1 j hj))).trans (ka1 j hj)
  have ka2 : ∀ j, j < 16 → (mset M1 o (ob 4 [.int 0, .null, .ref q_7, .int 0, .ref q_19, .ref q_31, .int 0, .int 0, .int 0, .int 0, .int 0])) (a2 j) = some (ob 1 [.int 0, .int 0, .int 0, .int 0, .int 0, .int 0]) := fun j hj => (mset_ne (Nat.ne_of_gt (loa2 j hj))).trans (ka2 j hj)
  have ko : (mset M1 o (ob 4 [.int 0, .null, .ref q_7, .int 0, .ref q_19, .ref q_31, .int 0, .int 0, .int 0, .int 0, .int 0])) o = some (ob 4 [.int 0, .null, .ref q_7, .int 0, .ref q_19, .ref q_31, .int 0, .int 0, .int 0, .int 0, .int 0]) := mset_self _ _ _
  revert kq_7 kq_19 ks1 kq_31 ks2 ka1 ka2 ko
  generalize mset M1 o (ob 4 [.int 0, .null, .ref q_7, .int 0, .ref q_19, .ref q_31, .int 0, .int 0, .int 0, .int 0, .int 0]) = M1
  intro kq_7 kq_19 ks1 kq_31 ks2 ka1 ka2 ko
  refine v_aload_n C (i := 0) d_Bs_init_53 rfl rfl ?_
  refine v_iconst C (v := 0) d_Bs_init_54 (by decide) ?_
  refine v_put C in_Bs t_Bs to_Bs nm_Bs ko cl_Bs 8 (by decide) (fs' := [.int 0, .null, .ref q_7, .int 0, .ref q_19, .ref q_31, .int 0, .int 0, .int 0, .int 0, .int 0]) w_111 rfl rfl rfl rfl (Nat.le_of_ble_eq_true rfl) rfl d_Bs_init_55 ?_
  have kq_7 : (mset M1 o (ob 4 [.int 0, .null, .ref q_7, .int 0, .ref q_19, .ref q_31, .int 0, .int 0, .int 0, .int 0, .int 0])) q_7 = some (aQ cR 120 (fun _ => none)) := (mset_ne (Nat.ne_of_gt (loq_7))).trans kq_7
  have kq_19 : (mset M1 o (ob 4 [.int 0, .null, .ref q_7, .int 0, .ref q_19, .ref q_31, .int 0, .int 0, .int 0, .int 0, .int 0])) q_19 = some (ob 0 [.ref s1, .int 0]) := (mset_ne (Nat.ne_of_gt (loq_19))).trans kq_19
  have ks1 : (mset M1 o (ob 4 [.int 0, .null, .ref q_7, .int 0, .ref q_19, .ref q_31, .int 0, .int 0, .int 0, .int 0, .int 0])) s1 = some (aQ cM 4 (fun j => if j < 4 then some (a1 j) else none)) := (mset_ne (Nat.ne_of_gt (los1))).trans ks1
  have kq_31 : (mset M1 o (ob 4 [.int 0, .null, .ref q_7, .int 0, .ref q_19, .ref q_31, .int 0, .int 0, .int 0, .int 0, .int 0])) q_31 = some (ob 0 [.ref s2, .int 0]) := (mset_ne (Nat.ne_of_gt (loq_31))).trans kq_31
  have ks2 : (mset M1 o (ob 4 [.int 0, .null, .ref q_7, .int 0, .ref q_19, .ref q_31, .int 0, .int 0, .int 0, .int 0, .int 0])) s2 = some (aQ cM 16 (fun j => if j < 16 then some (a2 j) else none)) := (mset_ne (Nat.ne_of_gt (los2))).trans ks2
  have ka1 : ∀ j, j < 4 → (mset M1 o (ob 4 [.int 0, .null, .ref q_7, .int 0, .ref q_19, .ref q_31, .int 0, .int 0, .int 0, .int 0, .int 0])) (a1 j) = some (ob 1 [.int 0, .int 0, .int 0, .int 0, .int 0, .int 0]) := fun j hj => (mset_ne (Nat.ne_of_gt (loa1 j hj))).trans (ka1 j hj)
  have ka2 : ∀ j, j < 16 → (mset M1 o (ob 4 [.int 0, .null, .ref q_7, .int 0, .ref q_19, .ref q_31, .int 0, .int 0, .int 0, .int 0, .int 0])) (a2 j) = some (ob 1 [.int 0, .int 0, .int 0, .int 0, .int 0, .int 0]) := fun j hj => (mset_ne (Nat.ne_of_gt (loa2 j hj))).trans (ka2 j hj)
  have ko : (mset M1 o (ob 4 [.int 0, .null, .ref q_7, .int 0, .ref q_19, .ref q_31, .int 0, .int 0, .int 0, .int 0, .int 0])) o = some (ob 4 [.int 0, .null, .ref q_7, .int 0, .ref q_19, .ref q_31, .int 0, .int 0, .int 0, .int 0, .int 0]) := mset_self _ _ _
  revert kq_7 kq_19 ks1 kq_31 ks2 ka1 ka2 ko
  generalize mset M1 o (ob 4 [.int 0, .null, .ref q_7, .int 0, .ref q_19, .ref q_31, .int 0, .int 0, .int 0, .int 0, .int 0]) = M1
  intro kq_7 kq_19 ks1 kq_31 ks2 ka1 ka2 ko
  refine v_aload_n C (i := 0) d_Bs_init_58 rfl rfl ?_
  refine v_iconst C (v := 0) d_Bs_init_59 (by decide) ?_
  refine v_put C in_Bs t_Bs to_Bs nm_Bs ko cl_Bs 9 (by decide) (fs' := [.int 0, .null, .ref q_7, .int 0, .ref q_19, .ref q_31, .int 0, .int 0, .int 0, .int 0, .int 0]) w_112 rfl rfl rfl rfl (Nat.le_of_ble_eq_true rfl) rfl d_Bs_init_60 ?_
  have kq_7 : (mset M1 o (ob 4 [.int 0, .null, .ref q_7, .int 0, .ref q_19, .ref q_31, .int 0, .int 0, .int 0, .int 0, .int 0])) q_7 = some (aQ cR 120 (fun _ => none)) := (mset_ne (Nat.ne_of_gt (loq_7))).trans kq_7
  have kq_19 : (mset M1 o (ob 4 [.int 0, .null, .ref q_7, .int 0, .ref q_19, .ref q_31, .int 0, .int 0, .int 0, .int 0, .int 0])) q_19 = some (ob 0 [.ref s1, .int 0]) := (mset_ne (Nat.ne_of_gt (loq_19))).trans kq_19
  have ks1 : (mset M1 o (ob 4 [.int 0, .null, .ref q_7, .int 0, .ref q_19, .ref q_31, .int 0, .int 0, .int 0, .int 0, .int 0])) s1 = some (aQ cM 4 (fun j => if j < 4 then some (a1 j) else none)) := (mset_ne (Nat.ne_of_gt (los1))).trans ks1
  have kq_31 : (mset M1 o (ob 4 [.int 0, .null, .ref q_7, .int 0, .ref q_19, .ref q_31, .int 0, .int 0, .int 0, .int 0, .int 0])) q_31 = some (ob 0 [.ref s2, .int 0]) := (mset_ne (Nat.ne_of_gt (loq_31))).trans kq_31
  have ks2 : (mset M1 o (ob 4 [.int 0, .null, .ref q_7, .int 0, .ref q_19, .ref q_31, .int 0, .int 0, .int 0, .int 0, .int 0])) s2 = some (aQ cM 16 (fun j => if j < 16 then some (a2 j) else none)) := (mset_ne (Nat.ne_of_gt (los2))).trans ks2
  have ka1 : ∀ j, j < 4 → (mset M1 o (ob 4 [.int 0, .null, .ref q_7, .int 0, .ref q_19, .ref q_31, .int 0, .int 0, .int 0, .int 0, .int 0])) (a1 j) = some (ob 1 [.int 0, .int 0, .int 0, .int 0, .int 0, .int 0]) := fun j hj => (mset_ne (Nat.ne_of_gt (loa1 j hj))).trans (ka1 j hj)
  have ka2 : ∀ j, j < 16 → (mset M1 o (ob 4 [.int 0, .null, .ref q_7, .int 0, .ref q_19, .ref q_31, .int 0, .int 0, .int 0, .int 0, .int 0])) (a2 j) = some (ob 1 [.int 0, .int 0, .int 0, .int 0, .int 0, .int 0]) := fun j hj => (mset_ne (Nat.ne_of_gt (loa2 j hj))).trans (ka2 j hj)
  have ko : (mset M1 o (ob 4 [.int 0, .null, .ref q_7, .int 0, .ref q_19, .ref q_31, .int 0, .int 0, .int 0, .int 0, .int 0])) o = some (ob 4 [.int 0, .null, .ref q_7, .int 0, .ref q_19, .ref q_31, .int 0, .int 0, .int 0, .int 0, .int 0]) := mset_self _ _ _
  revert kq_7 kq_19 ks1 kq_31 ks2 ka1 ka2 ko
  generalize mset M1 o (ob 4 [.int 0, .null, .ref q_7, .int 0, .ref q_19, .ref q_31, .int 0, .int 0, .int 0, .int 0, .int 0]) = M1
  intro kq_7 kq_19 ks1 kq_31 ks2 ka1 ka2 ko
  refine v_aload_n C (i := 0) d_Bs_init_63 rfl rfl ?_
  refine v_iconst C (v := 0) d_Bs_init_64 (by decide) ?_
  refine v_put C in_Bs t_Bs to_Bs nm_Bs ko cl_Bs 10 (by decide) (fs' := [.int 0, .null, .ref q_7, .int 0, .ref q_19, .ref q_31, .int 0, .int 0, .int 0, .int 0, .int 0]) w_113 rfl rfl rfl rfl (Nat.le_of_ble_eq_true rfl) rfl d_Bs_init_65 ?_
  have kq_7 : (mset M1 o (ob 4 [.int 0, .null, .ref q_7, .int 0, .ref q_19, .ref q_31, .int 0, .int 0, .int 0, .int 0, .int 0])) q_7 = some (aQ cR 120 (fun _ => none)) := (mset_ne (Nat.ne_of_gt (loq_7))).trans kq_7
  have kq_19 : (mset M1 o (ob 4 [.int 0, .null, .ref q_7, .int 0, .ref q_19, .ref q_31, .int 0, .int 0, .int 0, .int 0, .int 0])) q_19 = some (ob 0 [.ref s1, .int 0]) := (mset_ne (Nat.ne_of_gt (loq_19))).trans kq_19
  have ks1 : (mset M1 o (ob 4 [.int 0, .null, .ref q_7, .int 0, .ref q_19, .ref q_31, .int 0, .int 0, .int 0, .int 0, .int 0])) s1 = some (aQ cM 4 (fun j => if j < 4 then some (a1 j) else none)) := (mset_ne (Nat.ne_of_gt (los1))).trans ks1
  have kq_31 : (mset M1 o (ob 4 [.int 0, .null, .ref q_7, .int 0, .ref q_19, .ref q_31, .int 0, .int 0, .int 0, .int 0, .int 0])) q_31 = some (ob 0 [.ref s2, .int 0]) := (mset_ne (Nat.ne_of_gt (loq_31))).trans kq_31
  have ks2 : (mset M1 o (ob 4 [.int 0, .null, .ref q_7, .int 0, .ref q_19, .ref q_31, .int 0, .int 0, .int 0, .int 0, .int 0])) s2 = some (aQ cM 16 (fun j => if j < 16 then some (a2 j) else none)) := (mset_ne (Nat.ne_of_gt (los2))).trans ks2
  have ka1 : ∀ j, j < 4 → (mset M1 o (ob 4 [.int 0, .null, .ref q_7, .int 0, .ref q_19, .ref q_31, .int 0, .int 0, .int 0, .int 0, .int 0])) (a1 j) = some (ob 1 [.int 0, .int 0, .int 0, .int 0, .int 0, .int 0]) := fun j hj => (mset_ne (Nat.ne_of_gt (loa1 j hj))).trans (ka1 j hj)
  have ka2 : ∀ j, j < 16 → (mset M1 o (ob 4 [.int 0, .null, .ref q_7, .int 0, .ref q_19, .ref q_31, .int 0, .int 0, .int 0, .int 0, .int 0])) (a2 j) = some (ob 1 [.int 0, .int 0, .int 0, .int 0, .int 0, .int 0]) := fun j hj => (mset_ne (Nat.ne_of_gt (loa2 j hj))).trans (ka2 j hj)
  have ko : (mset M1 o (ob 4 [.int 0, .null, .ref q_7, .int 0, .ref q_19, .ref q_31, .int 0, .int 0, .int 0, .int 0, .int 0])) o = some (ob 4 [.int 0, .null, .ref q_7, .int 0, .ref q_19, .ref q_31, .int 0, .int 0, .int 0, .int 0, .int 0]) := mset_self _ _ _
  revert kq_7 kq_19 ks1 kq_31 ks2 ka1 ka2 ko
  generalize mset M1 o (ob 4 [.int 0, .null, .ref q_7, .int 0, .ref q_19, .ref q_31, .int 0, .int 0, .int 0, .int 0, .int 0]) = M1
  intro kq_7 kq_19 ks1 kq_31 ks2 ka1 ka2 ko
  refine v_aload_n C (i := 0) d_Bs_init_68 rfl rfl ?_
  refine v_iload_n C (i := 1) d_Bs_init_69 rfl rfl ?_
  refine v_iconst C (v := 1) d_Bs_init_70 (by decide) ?_
  refine v_iconst C (v := 4) d_Bs_init_71 (by decide) ?_
  refine v_callS C (As := [.int x, .int 1, .int 4]) (rest := [.ref o]) w_66 (ct_Bs_clamp x 1 4) (Nat.le_of_ble_eq_true rfl) (Nat.le_of_ble_eq_true rfl) w_67 w_1 hy_Bs_clamp w_65 rfl (Nat.le_of_ble_eq_true rfl) ⟨by decide, by decide⟩ d_Bs_init_72 (fun rv M hp => ?_)
  obtain ⟨rfl, hM9⟩ := hp
  have hM9 := hM9.symm
  subst hM9
  refine V.eqst (st' := [.int (clampI x 1 4), .ref o]) rfl (V.cs (k' := 25) (n' := 264) rfl rfl ?_)
  refine v_putF C in_Bs t_Bs to_Bs nm_Bs ko cl_Bs 0 (by decide) (fs' := [.int (clampI x 1 4), .null, .ref q_7, .int 0, .ref q_19, .ref q_31, .int 0, .int 0, .int 0, .int 0, .int 0]) w_103 rfl rfl hnm rfl rfl rfl (Nat.le_of_ble_eq_true rfl) rfl d_Bs_init_75 ?_
  have kq_7 : (mset M1 o (ob 4 [.int (clampI x 1 4), .null, .ref q_7, .int 0, .ref q_19, .ref q_31, .int 0, .int 0, .int 0, .int 0, .int 0])) q_7 = some (aQ cR 120 (fun _ => none)) := (mset_ne (Nat.ne_of_gt (loq_7))).trans kq_7
  have kq_19 : (mset M1 o (ob 4 [.int (clampI x 1 4), .null, .ref q_7, .int 0, .ref q_19, .ref q_31, .int 0, .int 0, .int 0, .int 0, .int 0])) q_19 = some (ob 0 [.ref s1, .int 0]) := (mset_ne (Nat.ne_of_gt (loq_19))).trans kq_19
  have ks1 : (mset M1 o (ob 4 [.int (clampI x 1 4), .null, .ref q_7, .int 0, .ref q_19, .ref q_31, .int 0, .int 0, .int 0, .int 0, .int 0])) s1 = some (aQ cM 4 (fun j => if j < 4 then some (a1 j) else none)) := (mset_ne (Nat.ne_of_gt (los1))).trans ks1
  have kq_31 : (mset M1 o (ob 4 [.int (clampI x 1 4), .null, .ref q_7, .int 0, .ref q_19, .ref q_31, .int 0, .int 0, .int 0, .int 0, .int 0])) q_31 = some (ob 0 [.ref s2, .int 0]) := (mset_ne (Nat.ne_of_gt (loq_31))).trans kq_31
  have ks2 : (mset M1 o (ob 4 [.int (clampI x 1 4), .null, .ref q_7, .int 0, .ref q_19, .ref q_31, .int 0, .int 0, .int 0, .int 0, .int 0])) s2 = some (aQ cM 16 (fun j => if j < 16 then some (a2 j) else none)) := (mset_ne (Nat.ne_of_gt (los2))).trans ks2
  have ka1 : ∀ j, j < 4 → (mset M1 o (ob 4 [.int (clampI x 1 4), .null, .ref q_7, .int 0, .ref q_19, .ref q_31, .int 0, .int 0, .int 0, .int 0, .int 0])) (a1 j) = some (ob 1 [.int 0, .int 0, .int 0, .int 0, .int 0, .int 0]) := fun j hj => (mset_ne (Nat.ne_of_gt (loa1 j hj))).trans (ka1 j hj)
  have ka2 : ∀ j, j < 16 → (mset M1 o (ob 4 [.int (clampI x 1 4), .null, .ref q_7, .int 0, .ref q_19, .ref q_31, .int 0, .int 0, .int 0, .int 0, .int 0])) (a2 j) = some (ob 1 [.int 0, .int 0, .int 0, .int 0, .int 0, .int 0]) := fun j hj => (mset_ne (Nat.ne_of_gt (loa2 j hj))).trans (ka2 j hj)
  have ko : (mset M1 o (ob 4 [.int (clampI x 1 4), .null, .ref q_7, .int 0, .ref q_19, .ref q_31, .int 0, .int 0, .int 0, .int 0, .int 0])) o = some (ob 4 [.int (clampI x 1 4), .null, .ref q_7, .int 0, .ref q_19, .ref q_31, .int 0, .int 0, .int 0, .int 0, .int 0]) := mset_self _ _ _
  revert kq_7 kq_19 ks1 kq_31 ks2 ka1 ka2 ko
  generalize mset M1 o (ob 4 [.int (clampI x 1 4), .null, .ref q_7, .int 0, .ref q_19, .ref q_31, .int 0, .int 0, .int 0, .int 0, .int 0]) = M1
  intro kq_7 kq_19 ks1 kq_31 ks2 ka1 ka2 ko
  refine v_aload_n C (i := 0) d_Bs_init_78 rfl rfl ?_
  refine v_new C (fs := [.int 0, .null, .null, .null, .int 0]) in_St t_St to_St w_74 w_75 w_5 cl_St (fun j hj => by rcases (show j = 0 ∨ j = 1 ∨ j = 2 ∨ j = 3 ∨ j = 4 by omega) with rfl | rfl | rfl | rfl | rfl <;> rfl) (by decide) (by decide) d_Bs_init_79 (fun q_79 hq_79 oq_79 => ?_)
  refine V.eqst (st' := [.ref q_79, .ref o]) rfl (V.cs (k' := 26) (n' := 269) rfl rfl ?_)
  have loq_79 : o < q_79 := oq_79 _ _ ko
  have lq_7q_79 : q_7 < q_79 := oq_79 _ _ kq_7
  have lq_19q_79 : q_19 < q_79 := oq_79 _ _ kq_19
  have ls1q_79 : s1 < q_79 := oq_79 _ _ ks1
  have lq_31q_79 : q_31 < q_79 := oq_79 _ _ kq_31
  have ls2q_79 : s2 < q_79 := oq_79 _ _ ks2
  have la1q_79 : ∀ j, j < 4 → a1 j < q_79 := fun j hj => oq_79 _ _ (ka1 j hj)
  have la2q_79 : ∀ j, j < 16 → a2 j < q_79 := fun j hj => oq_79 _ _ (ka2 j hj)
  have loq_79 : o < q_79 := oq_79 _ _ ko
  have ko : (mset M1 q_79 (ob 3 [.int 0, .null, .null, .null, .int 0])) o = some (ob 4 [.int (clampI x 1 4), .null, .ref q_7, .int 0, .ref q_19, .ref q_31, .int 0, .int 0, .int 0, .int 0, .int 0]) := (mset_ne (fr_ne hq_79 ko)).trans ko
  have kq_7 : (mset M1 q_79 (ob 3 [.int 0, .null, .null, .null, .int 0])) q_7 = some (aQ cR 120 (fun _ => none)) := (mset_ne (fr_ne hq_79 kq_7)).trans kq_7
  have kq_19 : (mset M1 q_79 (ob 3 [.int 0, .null, .null, .null, .int 0])) q_19 = some (ob 0 [.ref s1, .int 0]) := (mset_ne (fr_ne hq_79 kq_19)).trans kq_19
  have ks1 : (mset M1 q_79 (ob 3 [.int 0, .null, .null, .null, .int 0])) s1 = some (aQ cM 4 (fun j => if j < 4 then some (a1 j) else none)) := (mset_ne (fr_ne hq_79 ks1)).trans ks1
  have kq_31 : (mset M1 q_79 (ob 3 [.int 0, .null, .null, .null, .int 0])) q_31 = some (ob 0 [.ref s2, .int 0]) := (mset_ne (fr_ne hq_79 kq_31)).trans kq_31
  have ks2 : (mset M1 q_79 (ob 3 [.int 0, .null, .null, .null, .int 0])) s2 = some (aQ cM 16 (fun j => if j < 16 then some (a2 j) else none)) := (mset_ne (fr_ne hq_79 ks2)).trans ks2
  have ka1 : ∀ j, j < 4 → (mset M1 q_79 (ob 3 [.int 0, .null, .null, .null, .int 0])) (a1 j) = some (ob 1 [.int 0, .int 0, .int 0, .int 0, .int 0, .int 0]) := fun j hj => (mset_ne (fr_ne hq_79 (ka1 j hj))).trans (ka1 j hj)
  have ka2 : ∀ j, j < 16 → (mset M1 q_79 (ob 3 [.int 0, .null, .null, .null, .int 0])) (a2 j) = some (ob 1 [.int 0, .int 0, .int 0, .int 0, .int 0, .int 0]) := fun j hj => (mset_ne (fr_ne hq_79 (ka2 j hj))).trans (ka2 j hj)
  have kq_79 : (mset M1 q_79 (ob 3 [.int 0, .null, .null, .null, .int 0])) q_79 = some (ob 3 [.int 0, .null, .null, .null, .int 0]) := mset_self _ _ _
  revert ko kq_7 kq_19 ks1 kq_31 ks2 ka1 ka2 kq_79
  generalize mset M1 q_79 (ob 3 [.int 0, .null, .null, .null, .int 0]) = M1
  intro ko kq_7 kq_19 ks1 kq_31 ks2 ka1 ka2 kq_79
  refine v_dup C d_Bs_init_82 rfl ?_
  refine v_iload_n C (i := 2) d_Bs_init_83 rfl rfl ?_
  refine v_iconst C (v := 1) d_Bs_init_84 (by decide) ?_
  refine v_bipush C (v := 6) d_Bs_init_85 (by decide) ?_
  refine v_callS C (As := [.int y, .int 1, .int 6]) (rest := [.ref q_79, .ref q_79, .ref o]) w_66 (ct_Bs_clamp y 1 6) (Nat.le_of_ble_eq_true rfl) (Nat.le_of_ble_eq_true rfl) w_67 w_1 hy_Bs_clamp w_65 rfl (Nat.le_of_ble_eq_true rfl) ⟨by decide, by decide⟩ d_Bs_init_87 (fun rv M hp => ?_)
  obtain ⟨rfl, hM9⟩ := hp
  have hM9 := hM9.symm
  subst hM9
  refine V.eqst (st' := [.int (clampI y 1 6), .ref q_79, .ref q_79, .ref o]) rfl (V.cs (k' := 26) (n' := 269) rfl rfl ?_)
  obtain ⟨rm, hr1, hr6, erm⟩ := clamp_rm y
  refine V.eqst (st' := [.int (nI rm), .ref q_79, .ref q_79, .ref o]) (by rw [erm]) ?_
  refine v_callI C (As := [.int (nI rm)]) (rest := [.ref q_79, .ref o]) rfl w_77 (ct_St_init rm hr6 kq_79) (Nat.le_of_ble_eq_true rfl) (Nat.le_of_ble_eq_true rfl) w_78 w_5 hy_St_init w_76 rfl (Nat.le_of_ble_eq_true rfl) ⟨by decide, by decide⟩ d_Bs_init_90 (fun rv M hp => ?_)
  obtain ⟨rfl, dk, cb, cv, p1, p2, p3, p4, p5, p6, p7, p8, p9⟩ := hp
  have ko := p9 _ _ (Nat.ne_of_lt loq_79) ko
  have kq_7 := p9 _ _ (Nat.ne_of_lt lq_7q_79) kq_7
  have kq_19 := p9 _ _ (Nat.ne_of_lt lq_19q_79) kq_19
  have ks1 := p9 _ _ (Nat.ne_of_lt ls1q_79) ks1
  have kq_31 := p9 _ _ (Nat.ne_of_lt lq_31q_79) kq_31
  have ks2 := p9 _ _ (Nat.ne_of_lt ls2q_79) ks2
  have ka1 := fun j (hj : j < 4) => p9 _ _ (Nat.ne_of_lt (la1q_79 j hj)) (ka1 j hj)
  have ka2 := fun j (hj : j < 16) => p9 _ _ (Nat.ne_of_lt (la2q_79 j hj)) (ka2 j hj)
  have kq_79 := p5
  have kdk := p6
  have kcb := p7
  have kcv := p8
  have lodk : o < dk := Nat.lt_trans loq_79 p2
  have locb : o < cb := Nat.lt_trans lodk p3
  have locv : o < cv := Nat.lt_trans locb p4
  refine V.eqst (st' := [.ref q_79, .ref o]) rfl (V.cs (k' := 29) (n' := 299) rfl rfl ?_)
  refine v_putF C in_Bs t_Bs to_Bs nm_Bs ko cl_Bs 1 (by decide) (fs' := [.int (clampI x 1 4), .ref q_79, .ref q_7, .int 0, .ref q_19, .ref q_31, .int 0, .int 0, .int 0, .int 0, .int 0]) w_104 rfl rfl hnm rfl rfl rfl (Nat.le_of_ble_eq_true rfl) rfl d_Bs_init_93 ?_
  have kq_7 : (mset M o (ob 4 [.int (clampI x 1 4), .ref q_79, .ref q_7, .int 0, .ref q_19, .ref q_31, .int 0, .int 0, .int 0, .int 0, .int 0])) q_7 = some (aQ cR 120 (fun _ => none)) := (mset_ne (Nat.ne_of_gt (loq_7))).trans kq_7
  have kq_19 : (mset M o (ob 4 [.int (clampI x 1 4), .ref q_79, .ref q_7, .int 0, .ref q_19, .ref q_31, .int 0, .int 0, .int 0, .int 0, .int 0])) q_19 = some (ob 0 [.ref s1, .int 0]) := (mset_ne (Nat.ne_of_gt (loq_19))).trans kq_19
  have ks1 : (mset M o (ob 4 [.int (clampI x 1 4), .ref q_79, .ref q_7, .int 0, .ref q_19, .ref q_31, .int 0, .int 0, .int 0, .int 0, .int 0])) s1 = some (aQ cM 4 (fun j => if j < 4 then some (a1 j) else none)) := (mset_ne (Nat.ne_of_gt (los1))).trans ks1
  have kq_31 : (mset M o (ob 4 [.int (clampI x 1 4), .ref q_79, .ref q_7, .int 0, .ref q_19, .ref q_31, .int 0, .int 0, .int 0, .int 0, .int 0])) q_31 = some (ob 0 [.ref s2, .int 0]) := (mset_ne (Nat.ne_of_gt (loq_31))).trans kq_31
  have ks2 : (mset M o (ob 4 [.int (clampI x 1 4), .ref q_79, .ref q_7, .int 0, .ref q_19, .ref q_31, .int 0, .int 0, .int 0, .int 0, .int 0])) s2 = some (aQ cM 16 (fun j => if j < 16 then some (a2 j) else none)) := (mset_ne (Nat.ne_of_gt (los2))).trans ks2
  have kq_79 : (mset M o (ob 4 [.int (clampI x 1 4), .ref q_79, .ref q_7, .int 0, .ref q_19, .ref q_31, .int 0, .int 0, .int 0, .int 0, .int 0])) q_79 = some (ob 3 [.int (nI rm), .ref dk, .ref cb, .ref cv, .int 0]) := (mset_ne (Nat.ne_of_gt (loq_79))).trans kq_79
  have kdk : (mset M o (ob 4 [.int (clampI x 1 4), .ref q_79, .ref q_7, .int 0, .ref q_19, .ref q_31, .int 0, .int 0, .int 0, .int 0, .int 0])) dk = some (aI cI 16 (fun _ => 0)) := (mset_ne (Nat.ne_of_gt (lodk))).trans kdk
  have kcb : (mset M o (ob 4 [.int (clampI x 1 4), .ref q_79, .ref q_7, .int 0, .ref q_19, .ref q_31, .int 0, .int 0, .int 0, .int 0, .int 0])) cb = some (aI cI (rm + 1) (fun _ => 0)) := (mset_ne (Nat.ne_of_gt (locb))).trans kcb
  have kcv : (mset M o (ob 4 [.int (clampI x 1 4), .ref q_79, .ref q_7, .int 0, .ref q_19, .ref q_31, .int 0, .int 0, .int 0, .int 0, .int 0])) cv = some (aI cI (rm + 1) (fun _ => 0)) := (mset_ne (Nat.ne_of_gt (locv))).trans kcv
  have ka1 : ∀ j, j < 4 → (mset M o (ob 4 [.int (clampI x 1 4), .ref q_79, .ref q_7, .int 0, .ref q_19, .ref q_31, .int 0, .int 0, .int 0, .int 0, .int 0])) (a1 j) = some (ob 1 [.int 0, .int 0, .int 0, .int 0, .int 0, .int 0]) := fun j hj => (mset_ne (Nat.ne_of_gt (loa1 j hj))).trans (ka1 j hj)
  have ka2 : ∀ j, j < 16 → (mset M o (ob 4 [.int (clampI x 1 4), .ref q_79, .ref q_7, .int 0, .ref q_19, .ref q_31, .int 0, .int 0, .int 0, .int 0, .int 0])) (a2 j) = some (ob 1 [.int 0, .int 0, .int 0, .int 0, .int 0, .int 0]) := fun j hj => (mset_ne (Nat.ne_of_gt (loa2 j hj))).trans (ka2 j hj)
  have ko : (mset M o (ob 4 [.int (clampI x 1 4), .ref q_79, .ref q_7, .int 0, .ref q_19, .ref q_31, .int 0, .int 0, .int 0, .int 0, .int 0])) o = some (ob 4 [.int (clampI x 1 4), .ref q_79, .ref q_7, .int 0, .ref q_19, .ref q_31, .int 0, .int 0, .int 0, .int 0, .int 0]) := mset_self _ _ _
  revert kq_7 kq_19 ks1 kq_31 ks2 kq_79 kdk kcb kcv ka1 ka2 ko
  generalize mset M o (ob 4 [.int (clampI x 1 4), .ref q_79, .ref q_7, .int 0, .ref q_19, .ref q_31, .int 0, .int 0, .int 0, .int 0, .int 0]) = M1
  intro kq_7 kq_19 ks1 kq_31 ks2 kq_79 kdk kcb kcv ka1 ka2 ko
  refine v_aload_n C (i := 0) d_Bs_init_96 rfl rfl ?_
  obtain ⟨ad, e0, h⟩ := R1.start (clampI x 1 4) rm loq_7 lq_7q_19 lq_19s1 lsla1 lma1 la1q_31 lq_31s2 lsla2 lma2 la2q_79 p2 p3 p4 ko kq_79 kdk kcb kcv kq_7 kq_19 ks1 kq_31 ks2 ka1 ka2
  subst e0
  refine v_callV C (As := []) (rest := []) h.o cl_Bs rfl w_101 wp_0 (ct_Bs_beginSession h) (Nat.le_of_ble_eq_true rfl) (Nat.le_of_ble_eq_true rfl) w_102 w_1 hy_Bs_beginSession w_99 rfl (Nat.le_of_ble_eq_true rfl) ⟨by decide, by decide⟩ d_Bs_init_97 (fun rv M hp => ?_)
  obtain ⟨rfl, hw⟩ := hp
  refine V.eqst (st' := []) rfl (V.cs (k' := 29) (n' := 299) rfl rfl ?_)
  exact v_vret hQ C rfl d_Bs_init_100 (by omega) (by omega) ⟨rfl, ad, rm, hr1, hr6, erm, rfl, hw⟩
