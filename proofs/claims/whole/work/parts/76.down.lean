/-! a delivery on DOWN -/
section DND
variable {t W : Nat} {A A' : G1} {B B' : G2}
theorem cr_I7 (ca : Int32) : (B.cr ca).I 7 = if B.I 7 < ca then ca else B.I 7 := by
  unfold G2.cr
  by_cases h : ca ≤ B.I 7
  · rw [if_pos h, if_neg (Int32.not_lt.mpr h)]
  · rw [if_neg h, if_pos (Int32.not_le.mp h)]; rfl
theorem cr_I (ca : Int32) (k : Nat) (hk : k ≠ 7) : (B.cr ca).I k = B.I k := by
  unfold G2.cr
  split
  · rfl
  · exact va_up_ne _ _ hk
theorem cr_T (ca : Int32) : (B.cr ca).T = B.T := by
  unfold G2.cr
  split <;> rfl
theorem tk_cnt {m : Nat} (x : Int32) {n : Nat} (hn : n ≤ m) : cnt ((A.tk 1 m).T 21) x n + (if A.T 21 0 = x then 1 else 0) = cnt (A.T 21) x (n + 1) := by
  rw [← cnt_shift, cnt_congr (g := fun j => A.T 21 (j + 1)) (fun j hj => by rw [tk_Tm A 1 m 21 j (by omega), rot_low (by omega)])]
theorem SW_dn (h : SW t W A) (ht : t < 2 ^ 20) (hW : W ≤ 4) {m : Nat} (hm : A.N 3 = m + 1) (hk : A.T 21 0 = 2 ∨ A.T 21 0 = 3 ∨ A.T 21 0 = 4) (i3' : A'.I 3 = A.I 3) (i4' : A'.I 4 = A.I 4) (i5' : A'.I 5 = if A.I 5 < A.T 24 0 then A.T 24 0 else A.I 5) (n3 : A'.N 3 = m) (t21 : A'.T 21 = (A.tk 1 m).T 21) (t24 : A'.T 24 = (A.tk 1 m).T 24) (n2 : A'.N 2 = A.N 2 + (if A.T 21 0 = 2 then 1 else 0)) : SW t W A' := by
  obtain ⟨S, sd, i3, i5, i4, sum, le, lt, suf, car⟩ := h
  have ca := car 0 (by omega)
  have one : cnt (A.T 21) 4 (0 + 1) = 0 + (if A.T 21 0 = 4 then 1 else 0) := rfl
  have m2 := tk_cnt (A := A) (m := m) 2 (Nat.le_refl m)
  have m3 := tk_cnt (A := A) (m := m) 3 (Nat.le_refl m)
  have m4 := tk_cnt (A := A) (m := m) 4 (Nat.le_refl m)
  have k3 : ∀ k, k ≤ m → _ := fun k hk => tk_cnt (A := A) (m := m) 3 (n := k) hk
  have k4 : ∀ k, k ≤ m → _ := fun k hk => tk_cnt (A := A) (m := m) 4 (n := k) hk
  have cd : ∀ j, j < m → (A.tk 1 m).T 24 j = A.T 24 (j + 1) := fun j hj => by rw [tk_Tm A 1 m 24 j (by omega), rot_low hj]
  unfold SW
  rw [i3', i4', i5', n3, t21, t24, n2]
  rw [hm] at i4 sum suf car
  rw [one] at ca
  by_cases z : A.T 21 0 = 4
  · have z2 : ¬ A.T 21 0 = 2 := fun y => by rw [z] at y; exact absurd y (by decide)
    have z3 : ¬ A.T 21 0 = 3 := fun y => by rw [z] at y; exact absurd y (by decide)
    rw [if_pos z] at m4 ca
    rw [if_neg z2] at m2
    rw [if_neg z3] at m3
    rw [if_neg z2, ca, i5, if_pos ((nI_ltI (by omega) (by omega)).mpr (by omega))]
    refine ⟨S + 1, sd, i3, by congr 1; omega, by rw [i4]; congr 1; omega, by omega, by omega, lt, fun k hk => ?_, fun j hj => ?_⟩
    · have a3 := k3 k hk
      have a4 := k4 k hk
      rw [if_neg z3] at a3
      rw [if_pos z] at a4
      have := suf (k + 1) (by omega)
      omega
    · have a4 := k4 (j + 1) (by omega)
      rw [if_pos z] at a4
      rw [cd j hj, car (j + 1) (by omega)]
      congr 1
      omega
  · rw [if_neg z] at m4 ca
    have e5 : (if A.I 5 < A.T 24 0 then A.T 24 0 else A.I 5) = nI (S + W) := by
      rw [ca, i5]
      split <;> rfl
    rw [e5]
    rcases hk with z2 | z3 | z4
    · have z3 : ¬ A.T 21 0 = 3 := fun y => by rw [z2] at y; exact absurd y (by decide)
      rw [if_pos z2] at m2
      rw [if_neg z3] at m3
      rw [if_pos z2]
      refine ⟨S, sd, i3, rfl, by rw [i4]; congr 1; omega, by omega, by omega, lt, fun k hk => ?_, fun j hj => ?_⟩
      · have a3 := k3 k hk
        have a4 := k4 k hk
        rw [if_neg z3] at a3
        rw [if_neg z] at a4
        have := suf (k + 1) (by omega)
        omega
      · have a4 := k4 (j + 1) (by omega)
        rw [if_neg z] at a4
        rw [cd j hj, car (j + 1) (by omega)]
        congr 1
        omega
    · have z2 : ¬ A.T 21 0 = 2 := fun y => by rw [z3] at y; exact absurd y (by decide)
      rw [if_neg z2] at m2
      rw [if_pos z3] at m3
      rw [if_neg z2]
      refine ⟨S, sd, i3, rfl, by rw [i4]; congr 1; omega, by omega, by omega, lt, fun k hk => ?_, fun j hj => ?_⟩
      · have a3 := k3 k hk
        have a4 := k4 k hk
        rw [if_pos z3] at a3
        rw [if_neg z] at a4
        have := suf (k + 1) (by omega)
        omega
      · have a4 := k4 (j + 1) (by omega)
        rw [if_neg z] at a4
        rw [cd j hj, car (j + 1) (by omega)]
        congr 1
        omega
    · exact absurd z4 z
theorem SR_tk1 (hR : SR A B) {m : Nat} (hm : A.N 3 = m + 1) : ∀ j q, j < m → (A.tk 1 m).T 21 j = 4 → (A.tk 1 m).T 20 j = nI q → q < A.N 0 → A.T 3 q = 1 → ∀ k, k < cN A q → A.R q k = B.T 9 (q * 3 + k) ∨ pcB (A.tk 1 m) q k j ∨ (A.T 20 0 = nI q ∧ A.T 21 0 = 3 ∧ A.T 22 0 = nI k) := by
  intro j q hj
  rw [tk_Tm A 1 m 21 j (by omega), tk_Tm A 1 m 20 j (by omega), rot_low hj]
  intro s21 s20 hq s3 k hk
  rcases hR.2 (j + 1) q (by omega) s21 s20 hq s3 k hk with y | ⟨j', h1, h2, h3, h4⟩
  · exact Or.inl y
  · cases j' with
    | zero => exact Or.inr (Or.inr ⟨h2, h3, h4⟩)
    | succ i => exact Or.inr (Or.inl ⟨i, by omega, by rw [tk_Tm A 1 m 20 i (by omega), rot_low (by omega)]; exact h2, by rw [tk_Tm A 1 m 21 i (by omega), rot_low (by omega)]; exact h3, by rw [tk_Tm A 1 m 22 i (by omega), rot_low (by omega)]; exact h4⟩)
theorem sim_down (h : Sim t A B) (ht : t < 2 ^ 20) (hs : ¬ A.I 1 = 0) {m q k : Nat} (hm : A.N 3 = m + 1) (hq : A.T 20 0 = nI q) (hqn : q < A.N 0) (hk : B.T 11 64 = 3 → B.T 12 64 = nI k ∧ k < 3) : Sim t ((A.tk 1 m).tki q (A.T 21 0) (A.T 22 0) (A.T 23 0) (A.T 24 0)) (((((B.dlv 1 m).cr (B.T 14 64)).asF q (A.N 2) (B.T 11 64) (B.T 12 64)).pcF q k (B.T 11 64) (B.T 13 64)).tk4 q (B.T 11 64)) := by
  have hz := h.sizes
  have hrl := h.rl
  obtain ⟨W, hQ, hL, hC, hM, hW, hR, hS⟩ := h
  have hsw := hW hs
  have hn := hQ.1
  have e21 : B.T 11 64 = A.T 21 0 := (hL.2.2.2.1 11 0 (by omega) (by omega) (by omega)).symm
  have e22 : B.T 12 64 = A.T 22 0 := (hL.2.2.2.1 12 0 (by omega) (by omega) (by omega)).symm
  have e23 : B.T 13 64 = A.T 23 0 := (hL.2.2.2.1 13 0 (by omega) (by omega) (by omega)).symm
  have e24 : B.T 14 64 = A.T 24 0 := (hL.2.2.2.1 14 0 (by omega) (by omega) (by omega)).symm
  rw [e21, e22] at hk
  rw [e21, e22, e23, e24]
  have three := SM_three hM 0 (by omega)
  obtain ⟨q0, hq0, eq0, kind⟩ := hM.2 0 (by omega)
  have eq1 : q0 = q := (nI_eq (by omega) (by omega)).mp (eq0.symm.trans hq)
  subst eq1
  have hI := hS.2.2.2.2.2.2.2 hs
  have weak := SR_tk1 hR hm
  have L0 := SL_tk1 hL hm (by omega)
  have M0 := SM_tk1 hM hm
  have L1 : SL ((A.tk 1 m).sI 5 (if (A.tk 1 m).I 5 < A.T 24 0 then A.T 24 0 else (A.tk 1 m).I 5)) ((B.dlv 1 m).cr (A.T 24 0)) := SL_of (A := A.tk 1 m) (B := B.dlv 1 m) rfl rfl (fun _ _ _ => rfl) (fun k _ _ => by rw [cr_T]) L0
  have M1 : SM ((A.tk 1 m).sI 5 (if (A.tk 1 m).I 5 < A.T 24 0 then A.T 24 0 else (A.tk 1 m).I 5)) := M0
  have win : ∀ A' : G1, A'.I 3 = A.I 3 → A'.I 4 = A.I 4 → A'.I 5 = (if A.I 5 < A.T 24 0 then A.T 24 0 else A.I 5) → A'.N 3 = m → A'.T 21 = (A.tk 1 m).T 21 → A'.T 24 = (A.tk 1 m).T 24 → A'.N 2 = A.N 2 + (if A.T 21 0 = 2 then 1 else 0) → SW t W A' := fun A' a b c d e f g => SW_dn hsw ht hS.2.1 hm three a b c d e f g
  have d7 : (A.tk 1 m).T 7 = A.T 7 := tk_T A 1 m 7 (by omega)
  have dR : (A.tk 1 m).R = A.R := rfl
  simp only [G1.tki]
  generalize hA1 : (A.tk 1 m).sI 5 (if (A.tk 1 m).I 5 < A.T 24 0 then A.T 24 0 else (A.tk 1 m).I 5) = A1 at *
  generalize hB1 : (B.dlv 1 m).cr (A.T 24 0) = B1 at *
  have aD : ∀ j, A1.T j = (A.tk 1 m).T j := fun j => by rw [← hA1]; rfl
  have aT : ∀ j, j < 20 → A1.T j = A.T j := fun j hj => by rw [aD]; exact tk_T A 1 m j (by omega)
  have aN : ∀ j, j ≠ 3 → A1.N j = A.N j := fun j hj => by rw [← hA1]; exact tk_N A 1 m j (by omega)
  have a3 : A1.N 3 = m := by rw [← hA1]; exact tk_Nx A 1 m
  have aR : A1.R = A.R := by rw [← hA1]; rfl
  have aI : ∀ j, j ≠ 5 → A1.I j = A.I j := fun j hj => by rw [← hA1]; exact va_up_ne _ _ hj
  have a5 : A1.I 5 = (if A.I 5 < A.T 24 0 then A.T 24 0 else A.I 5) := by rw [← hA1]; rfl
  have bT : ∀ j, j < 10 → B1.T j = B.T j := fun j hj => by rw [← hB1, cr_T]; exact dlv_low _ _ _ _ hj
  have bI : ∀ j, j ≠ 7 → B1.I j = B.I j := fun j hj => by rw [← hB1, cr_I _ _ hj]; rfl
  have b7 : B1.I 7 = (if A.I 5 < A.T 24 0 then A.T 24 0 else A.I 5) := by rw [← hB1, cr_I7, hI.2.2]; rfl
  have Q1 : SQ A1 B1 := SQ_of (aN 0 (by omega)) (fun j h1 h2 => aT j (by omega)) (bI 3 (by omega)) (fun j h1 h2 => bT j (by omega)) hQ
  have C1 : SC t A1 B1 := SC_of (aN 1 (by omega)) (aN 4 (by omega)) (fun j h1 => aT j (by omega)) (fun j h1 h2 => bI j (by omega)) (fun j h1 h2 => bT j (by omega)) hC
  have S1 : SS W A1 B1 := ⟨hS.1, hS.2.1, by rw [aI 0 (by omega)]; exact hS.2.2.1, by rw [bI 0 (by omega)]; exact hS.2.2.2.1, by rw [aI 1 (by omega), bI 4 (by omega)]; exact hS.2.2.2.2.1, by rw [aI 2 (by omega), bI 8 (by omega)]; exact hS.2.2.2.2.2.1, fun z => absurd z (by rw [aI 1 (by omega)]; exact hs), fun _ => ⟨by rw [aI 3 (by omega), bI 5 (by omega)]; exact hI.1, by rw [aI 4 (by omega), bI 6 (by omega)]; exact hI.2.1, by rw [a5, b7]⟩⟩
  have cn : ∀ i, cN A1 i = cN A i := fun i => by unfold cN; rw [aT 5 (by omega)]
  have weak' : ∀ j q, j < m → A1.T 21 j = 4 → A1.T 20 j = nI q → q < A.N 0 → A.T 3 q = 1 → ∀ k, k < cN A q → A.R q k = B.T 9 (q * 3 + k) ∨ pcB A1 q k j ∨ (A.T 20 0 = nI q ∧ A.T 21 0 = 3 ∧ A.T 22 0 = nI k) := by
    intro j q
    unfold pcB
    rw [aD 21, aD 20, aD 22]
    exact weak j q
  have i1 : ¬ A1.I 1 = 0 := by rw [aI 1 (by omega)]; exact hs
  rcases kind with ⟨z2, p, hp, ep⟩ | ⟨z3, k0, ek, hk0⟩ | z4
  · have z3 : ¬ A.T 21 0 = 3 := fun y => by rw [z2] at y; exact absurd y (by decide)
    have z4 : ¬ A.T 21 0 = 4 := fun y => by rw [z2] at y; exact absurd y (by decide)
    unfold G2.tk4 G2.pcF G2.asF
    rw [if_pos z2, if_neg z4, if_neg z3, if_pos z2]
    have R1 : SR A1 B1 := by
      refine ⟨fun i hi => ?_, fun j q' hj => ?_⟩
      · rw [aN 0 (by omega)] at hi
        rw [aT 7 (by omega), aT 3 (by omega), cn, aR, bT 9 (by omega)]
        exact hR.1 i hi
      · rw [a3] at hj
        rw [aN 0 (by omega), aT 3 (by omega), cn, aR, bT 9 (by omega)]
        intro s21 s20 hq' s3 k' hk'
        rcases weak' j q' hj s21 s20 hq' s3 k' hk' with y | y | y
        · exact Or.inl y
        · exact Or.inr y
        · exact absurd y.2.1 z3
    have e2 := SL_up L1 (by rw [aN 2 (by omega)]; omega) (nI q0) 1 (A.T 22 0) 0 0
    rw [aN 2 (by omega)] at e2
    refine ⟨W, SQ_of (A := A1) (B := B1) (snd_N0 0 _ _ _ _ _) (fun k h1 h2 => snd_T _ _ _ _ _ _ _ k (by omega)) rfl (fun k h1 h2 => pst_low B1 _ _ _ _ _ _ _ k (by omega)) Q1, e2, SC_of (A := A1) (B := B1) (by rw [snd_N, if_neg (by omega)]) (by rw [snd_N, if_neg (by omega)]) (fun k h1 => snd_T _ _ _ _ _ _ _ k (by omega)) (fun _ _ _ => rfl) (fun k h1 h2 => pst_low B1 _ _ _ _ _ _ _ k (by omega)) C1, SM_up M1 (by rw [aN 0 (by omega)]; exact hqn) (Or.inr ⟨rfl, p, hp, ep⟩), fun _ => win _ (aI 3 (by omega)) (aI 4 (by omega)) a5 (by rw [snd_N, if_neg (by omega)]; exact a3) (by rw [snd0_down _ _ _ _ _ _ 21 (by omega), aD]) (by rw [snd0_down _ _ _ _ _ _ 24 (by omega), aD]) (by rw [snd_N, if_pos rfl, aN 2 (by omega), if_pos z2]), SR_of (A := A1) (B := B1) (snd_N0 0 _ _ _ _ _) (by rw [snd_N, if_neg (by omega)]) (snd_T _ _ _ _ _ _ _ 3 (by omega)) (snd_T _ _ _ _ _ _ _ 5 (by omega)) (snd_T _ _ _ _ _ _ _ 7 (by omega)) (fun k h1 h2 => snd0_down _ _ _ _ _ _ k (by omega)) rfl (pst_low B1 _ _ _ _ _ _ _ 9 (by omega)) R1, ?_⟩
    exact ⟨S1.1, S1.2.1, S1.2.2.1, S1.2.2.2.1, S1.2.2.2.2.1, S1.2.2.2.2.2.1, fun z => absurd z i1, fun _ => S1.2.2.2.2.2.2.2 i1⟩
  · have z2 : ¬ A.T 21 0 = 2 := fun y => by rw [z3] at y; exact absurd y (by decide)
    have z4 : ¬ A.T 21 0 = 4 := fun y => by rw [z3] at y; exact absurd y (by decide)
    unfold G2.tk4 G2.pcF G2.asF
    rw [if_neg z2, if_pos z3, if_neg z4, if_pos z3, if_neg z2]
    have hrq := hrl q0 hqn
    have ekk : k0 = k := (nI_eq (by omega) (by have := (hk z3).2; omega)).mp (ek.symm.trans (hk z3).1)
    subst ekk
    rw [ek, pk_cl k0, dR]
    have hk3 := (hk z3).2
    have rT : ∀ j, (A1.sR q0 (upd (A.R q0) k0 (A.T 23 0))).T j = A1.T j := fun _ => rfl
    have rA : ∀ i k', ¬ (i = q0 ∧ k' = k0) → (A1.sR q0 (upd (A.R q0) k0 (A.T 23 0))).R i k' = A.R i k' := fun i k' hne => by
      show va_up A1.2.2.2 q0 (upd (A.R q0) k0 (A.T 23 0)) i k' = _
      by_cases c : i = q0
      · subst c
        rw [va_up_self, pk_un (fun y => hne ⟨rfl, y⟩)]
      · rw [va_up_ne _ _ c]
        show A1.R i k' = _
        rw [aR]
    have rB : (A1.sR q0 (upd (A.R q0) k0 (A.T 23 0))).R q0 k0 = A.T 23 0 := by
      show va_up A1.2.2.2 q0 (upd (A.R q0) k0 (A.T 23 0)) q0 k0 = _
      rw [va_up_self, pk_us]
    have u9 : (B1.sT 9 (upd (B1.T 9) (q0 * 3 + k0) (A.T 23 0))).T 9 = upd (B.T 9) (q0 * 3 + k0) (A.T 23 0) := by rw [sT2_at, bT 9 (by omega)]
    have key : ∀ i k', i < A.N 0 → k' < cN A i → (A.R i k' = B.T 9 (i * 3 + k') ∨ (i = q0 ∧ k' = k0)) → (A1.sR q0 (upd (A.R q0) k0 (A.T 23 0))).R i k' = upd (B.T 9) (q0 * 3 + k0) (A.T 23 0) (i * 3 + k') := by
      intro i k' hi hk' hor
      have hci := (hQ.2.2 i hi).2.2.2.2.2.f.2.2.2
      by_cases c : i = q0 ∧ k' = k0
      · obtain ⟨rfl, rfl⟩ := c
        rw [rB, pk_us]
      · rw [rA i k' c, pk_un (by omega)]
        rcases hor with y | y
        · exact y
        · exact absurd y c
    refine ⟨W, SQ_of (A := A1) (B := B1) rfl (fun _ _ _ => rfl) rfl (fun k h1 h2 => sT2_ne _ _ _ _ (by omega)) Q1, SL_of (A := A1) (B := B1) rfl rfl (fun _ _ _ => rfl) (fun k h1 h2 => sT2_ne _ _ _ _ (by omega)) L1, SC_of (A := A1) (B := B1) rfl rfl (fun _ _ => rfl) (fun _ _ _ => rfl) (fun k h1 h2 => sT2_ne _ _ _ _ (by omega)) C1, M1, fun _ => win _ (aI 3 (by omega)) (aI 4 (by omega)) a5 a3 (aD 21) (aD 24) (by rw [if_neg z2]; exact aN 2 (by omega)), ⟨fun i hi => ?_, fun j q' hj => ?_⟩, S1⟩
    · have hi' : i < A.N 0 := by rw [← aN 0 (by omega)]; exact hi
      rw [rT 7, rT 3, aT 7 (by omega), aT 3 (by omega), u9]
      intro s7 s3 k' hk'
      have hk2 : k' < cN A i := by rw [← cn]; exact hk'
      exact key i k' hi' hk2 (Or.inl (hR.1 i hi' s7 s3 k' hk2))
    · have hj' : j < m := by rw [← a3]; exact hj
      rw [rT 3, aT 3 (by omega), u9]
      intro s21 s20 hq' s3 k' hk'
      have hq2 : q' < A.N 0 := by rw [← aN 0 (by omega)]; exact hq'
      have hk2 : k' < cN A q' := by rw [← cn]; exact hk'
      have hci := (hQ.2.2 q' hq2).2.2.2.2.2.f.2.2.2
      rcases weak' j q' hj' s21 s20 hq2 s3 k' hk2 with y | y | ⟨y1, y2, y3⟩
      · exact Or.inl (key q' k' hq2 hk2 (Or.inl y))
      · exact Or.inr y
      · refine Or.inl (key q' k' hq2 hk2 (Or.inr ⟨?_, ?_⟩))
        · exact (nI_eq (by omega) (by omega)).mp (y1.symm.trans hq)
        · exact (nI_eq (by omega) (by omega)).mp (y3.symm.trans ek)
  · have z2 : ¬ A.T 21 0 = 2 := fun y => by rw [z4] at y; exact absurd y (by decide)
    have z3 : ¬ A.T 21 0 = 3 := fun y => by rw [z4] at y; exact absurd y (by decide)
    unfold G2.tk4 G2.pcF G2.asF
    rw [if_neg z2, if_neg z3, if_pos z4, if_neg z3, if_neg z2, d7]
    have g7 : (A1.sT 7 (upd (A.T 7) q0 2)).T 7 = upd (A.T 7) q0 2 := va_up_self A1.2.2.1 7 _
    have gT : ∀ j, j ≠ 7 → (A1.sT 7 (upd (A.T 7) q0 2)).T j = A1.T j := fun j hj => va_up_ne _ _ hj
    have u8 : (B1.sT 8 (upd (B1.T 8) q0 2)).T 8 = upd (B.T 8) q0 2 := by rw [sT2_at, bT 8 (by omega)]
    have uT : ∀ j, j ≠ 8 → (B1.sT 8 (upd (B1.T 8) q0 2)).T j = B1.T j := fun j hj => sT2_ne _ _ _ _ hj
    have gc : ∀ i, cN (A1.sT 7 (upd (A.T 7) q0 2)) i = cN A i := fun i => by rw [← cn i]; unfold cN; rw [gT 5 (by omega)]
    refine ⟨W, ⟨Q1.1, Q1.2.1, fun i hi => ?_⟩, SL_of (A := A1) (B := B1) rfl rfl (fun j h1 h2 => gT j (by omega)) (fun j h1 h2 => uT j (by omega)) L1, SC_of (A := A1) (B := B1) rfl rfl (fun j h1 => gT j (by omega)) (fun _ _ _ => rfl) (fun j h1 h2 => uT j (by omega)) C1, SM_of (A := A1) rfl rfl rfl (fun j h1 h2 => gT j (by omega)) (gT 3 (by omega)) (gT 5 (by omega)) M1, fun _ => win _ (aI 3 (by omega)) (aI 4 (by omega)) a5 a3 ((gT 21 (by omega)).trans (aD 21)) ((gT 24 (by omega)).trans (aD 24)) (by rw [if_neg z2]; exact aN 2 (by omega)), ⟨fun i hi => ?_, fun j q' hj => ?_⟩, S1⟩
    · obtain ⟨a, b, c, d, e, g⟩ := Q1.2.2 i hi
      rw [gT 3 (by omega), gT 4 (by omega), gT 5 (by omega), gT 6 (by omega), g7, uT 4 (by omega), uT 5 (by omega), uT 6 (by omega), uT 7 (by omega), u8]
      refine ⟨a, b, c, d, ?_, rOK_of (fun j h1 h2 => gT j (by omega)) g⟩
      by_cases y : i = q0
      · rw [y, pk_us, pk_us]
      · rw [pk_un y, pk_un y, ← aT 7 (by omega), ← bT 8 (by omega)]; exact e
    · have hi' : i < A.N 0 := by rw [← aN 0 (by omega)]; exact hi
      rw [g7, gT 3 (by omega), aT 3 (by omega), gc, uT 9 (by omega), bT 9 (by omega)]
      intro s7 s3 k' hk'
      show A1.R i k' = _
      rw [aR]
      by_cases y : i = q0
      · rw [y] at s3 hk' ⊢
        rcases hR.2 0 q0 (by omega) z4 hq hqn s3 k' hk' with x | ⟨j', x, -⟩
        · exact x
        · exact absurd x (Nat.not_lt_zero j')
      · rw [pk_un y] at s7
        exact hR.1 i hi' s7 s3 k' hk'
    · have hj' : j < m := by rw [← a3]; exact hj
      rw [gT 21 (by omega), gT 20 (by omega), gT 22 (by omega), gT 3 (by omega), aT 3 (by omega), gc, uT 9 (by omega), bT 9 (by omega)]
      intro s21 s20 hq' s3 k' hk'
      have hq2 : q' < A.N 0 := by rw [← aN 0 (by omega)]; exact hq'
      show A1.R q' k' = _ ∨ _
      rw [aR]
      rcases weak' j q' hj' s21 s20 hq2 s3 k' hk' with y | y | y
      · exact Or.inl y
      · exact Or.inr y
      · exact absurd y.2.1 z3
end DND
