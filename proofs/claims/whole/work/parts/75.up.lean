/-! send, and a delivery on UP -/
section UPD
variable {t W : Nat} {A A' : G1} {B B' : G2}
theorem sim_send (h : Sim t A B) (ht : t < 2 ^ 20) (hs : ¬ A.I 1 = 0) {p : Nat} (hp : p < A.N 0) (hlt : A.I 3 < A.I 5) : Sim (t + 1) (((A.sT 7 (upd (A.T 7) p 1)).sI 3 (A.I 3 + 1)).snd 0 (nI p) 0 0 0 0) (B.sendG p (A.N 2)) := by
  have hz := h.sizes
  obtain ⟨W, hQ, hL, hC, hM, hW, hR, hS⟩ := h
  have hw := hW hs
  have hI := hS.2.2.2.2.2.2.2 hs
  have Q1 : SQ ((A.sT 7 (upd (A.T 7) p 1)).sI 3 (A.I 3 + 1)) ((B.sT 8 (upd (B.T 8) p 1)).sI 5 (B.I 5 + 1)) := by
    refine ⟨hQ.1, hQ.2.1, fun i hi => ?_⟩
    obtain ⟨a, b, c, d, e, g⟩ := hQ.2.2 i hi
    refine ⟨a, b, c, d, ?_, g⟩
    show upd (A.T 7) p 1 i = upd (B.T 8) p 1 i
    by_cases z : i = p
    · rw [z, pk_us, pk_us]
    · rw [pk_un z, pk_un z]; exact e
  have L1 : SL ((A.sT 7 (upd (A.T 7) p 1)).sI 3 (A.I 3 + 1)) ((B.sT 8 (upd (B.T 8) p 1)).sI 5 (B.I 5 + 1)) := SL_of (A := A) (B := B) rfl rfl (fun k h1 h2 => va_up_ne _ _ (by omega)) (fun k h1 h2 => sT2_ne _ _ _ _ (by omega)) hL
  have M1 : SM ((A.sT 7 (upd (A.T 7) p 1)).sI 3 (A.I 3 + 1)) := SM_of (A := A) rfl rfl rfl (fun k h1 h2 => va_up_ne _ _ (by omega)) rfl rfl hM
  generalize hA1 : (A.sT 7 (upd (A.T 7) p 1)).sI 3 (A.I 3 + 1) = A1 at *
  have aT : ∀ k, k ≠ 7 → A1.T k = A.T k := fun k hk => by rw [← hA1]; exact va_up_ne _ _ hk
  have aN : ∀ k, A1.N k = A.N k := fun k => by rw [← hA1]; rfl
  have aR : A1.R = A.R := by rw [← hA1]; rfl
  have aI : ∀ k, k ≠ 3 → A1.I k = A.I k := fun k hk => by rw [← hA1]; exact va_up_ne _ _ hk
  have a3 : A1.I 3 = A.I 3 + 1 := by rw [← hA1]; rfl
  have a7 : A1.T 7 = upd (A.T 7) p 1 := by rw [← hA1]; rfl
  have sN : ∀ k, k ≠ 2 → (A1.snd 0 (nI p) 0 0 0 0).N k = A.N k := fun k hk => by rw [snd_N, if_neg hk, aN]
  have s2 : (A1.snd 0 (nI p) 0 0 0 0).N 2 = A.N 2 + 1 := by rw [snd_N, if_pos rfl, aN]
  have sD : ∀ k, 16 ≤ k → (A1.snd 0 (nI p) 0 0 0 0).T k = A.T k := fun k hk => by rw [snd0_down _ _ _ _ _ _ _ hk, aT k (by omega)]
  have sT : ∀ k, k < 10 → k ≠ 7 → (A1.snd 0 (nI p) 0 0 0 0).T k = A.T k := fun k hk h7 => by rw [snd_T _ _ _ _ _ _ _ _ hk, aT k h7]
  have sI : (A1.snd 0 (nI p) 0 0 0 0).I = A1.I := rfl
  have gT : ∀ k, k < 10 → k ≠ 8 → (B.sendG p (A.N 2)).T k = B.T k := fun k hk h8 => by
    unfold G2.sendG
    rw [pst_low _ _ _ _ _ _ _ _ _ hk]
    exact sT2_ne _ _ _ _ h8
  have e2 : SL (A1.snd 0 (nI p) 0 0 0 0) (B.sendG p (A.N 2)) := by
    have := SL_up L1 (by rw [aN]; omega) (nI p) 0 0 0 0
    rw [aN] at this
    exact this
  refine ⟨W, SQ_of (A := A1) (B := (B.sT 8 (upd (B.T 8) p 1)).sI 5 (B.I 5 + 1)) (snd_N0 0 _ _ _ _ _) (fun k h1 h2 => snd_T _ _ _ _ _ _ _ k (by omega)) rfl (fun k h1 h2 => pst_low _ _ _ _ _ _ _ _ k (by omega)) Q1, e2, SC_up (Nat.le_succ t) (SC_of (A := A) (B := B) (sN 1 (by omega)) (sN 4 (by omega)) (fun k h1 => sT k (by omega) (by omega)) (fun k h1 h2 => va_up_ne _ _ (by omega)) (fun k h1 h2 => gT k (by omega) (by omega)) hC), SM_up M1 (by rw [aN]; exact hp) (Or.inl rfl), fun _ => ?_, ⟨fun i hi => ?_, fun j q hj => ?_⟩, ?_⟩
  · obtain ⟨S, sd, i3, i5, i4, sum, le, lt, suf, car⟩ := hw
    have hsd : sd < S + W := by
      rw [i3, i5] at hlt
      have := hS.2.1
      exact (nI_ltI (by omega) (by omega)).mp hlt
    refine ⟨S, sd + 1, ?_, ?_, ?_, ?_, by omega, by omega, fun k hk => ?_, fun j hj => ?_⟩
    · rw [sI, a3, i3, nI_1]
    · rw [sI, aI 5 (by omega)]; exact i5
    · rw [sI, aI 4 (by omega), sN 3 (by omega), sD 21 (by omega)]; exact i4
    · rw [s2, sN 3 (by omega), sD 21 (by omega)]; omega
    · rw [sN 3 (by omega)] at hk ⊢
      rw [sD 21 (by omega)]
      exact suf k hk
    · rw [sN 3 (by omega)] at hj
      rw [sD 21 (by omega), sD 24 (by omega)]
      exact car j hj
  · rw [sN 0 (by omega)] at hi
    intro s7 s3 k hk
    rw [snd_T _ _ _ _ _ _ _ 7 (by omega), a7] at s7
    rw [sT 3 (by omega) (by omega)] at s3
    have ec : cN (A1.snd 0 (nI p) 0 0 0 0) i = cN A i := by unfold cN; rw [sT 5 (by omega) (by omega)]
    rw [ec] at hk
    rw [snd_R, aR, gT 9 (by omega) (by omega)]
    by_cases z : i = p
    · rw [z, pk_us] at s7; exact absurd s7 (by decide)
    · rw [pk_un z] at s7
      exact hR.1 i hi s7 s3 k hk
  · rw [sN 3 (by omega)] at hj
    have ec : cN (A1.snd 0 (nI p) 0 0 0 0) q = cN A q := by unfold cN; rw [sT 5 (by omega) (by omega)]
    rw [sD 21 (by omega), sD 20 (by omega), sD 22 (by omega), sN 0 (by omega), sT 3 (by omega) (by omega), ec, snd_R, aR, gT 9 (by omega) (by omega)]
    exact hR.2 j q hj
  · refine ⟨hS.1, hS.2.1, ?_, hS.2.2.2.1, ?_, ?_, fun z => ?_, fun z => ⟨?_, ?_, ?_⟩⟩
    · rw [sI, aI 0 (by omega)]; exact hS.2.2.1
    · rw [sI, aI 1 (by omega)]; exact hS.2.2.2.2.1
    · rw [sI, aI 2 (by omega)]; exact hS.2.2.2.2.2.1
    · rw [sI, aI 1 (by omega)] at z; exact absurd z hs
    · rw [sI, a3, hI.1]; rfl
    · rw [sI, aI 4 (by omega)]; exact hI.2.1
    · rw [sI, aI 5 (by omega)]; exact hI.2.2
theorem SL_tk0 (hL : SL A B) {m : Nat} (hm : A.N 2 = m + 1) (h60 : m ≤ 60) : SL (A.tk 0 m) (B.dlv 0 m) := by
  obtain ⟨g1, g2, g3, g4, g5⟩ := hL
  have n2 : (A.tk 0 m).N 2 = m := tk_Nx A 0 m
  refine ⟨?_, ?_, fun s j h4 h5 hj => ?_, fun s j h4 h5 hj => ?_, fun j => ?_⟩
  · rw [dlv_16, pk_us, n2]
  · rw [dlv_16, pk_un (by omega), tk_N A 0 m 3 (by omega)]; exact g2
  · rw [n2] at hj
    rw [tk_Tm A 0 m s j (by omega), rot_low hj, dlv_m _ _ _ s ⟨h4, h5⟩]
    show _ = (if 64 * 0 ≤ j ∧ j < 64 * 0 + m then B.T s (j + 1) else B.T s j)
    rw [if_pos (by omega)]
    exact g3 s (j + 1) h4 h5 (by omega)
  · rw [tk_N A 0 m 3 (by omega)] at hj
    rw [tk_T A 0 m (s + 10) (by omega), dlv_m _ _ _ s ⟨h4, h5⟩]
    show _ = (if 64 * 0 ≤ 64 + j ∧ 64 + j < 64 * 0 + m then B.T s (64 + j + 1) else B.T s (64 + j))
    rw [if_neg (by omega)]
    exact g4 s j h4 h5 hj
  · rw [dlv_m _ _ _ 15 (by omega)]
    show (if 64 * 0 ≤ j ∧ j < 64 * 0 + m then B.T 15 (j + 1) else B.T 15 j) = 0 ∨ (if 64 * 0 ≤ j ∧ j < 64 * 0 + m then B.T 15 (j + 1) else B.T 15 j) = 1
    by_cases z : 64 * 0 ≤ j ∧ j < 64 * 0 + m
    · rw [if_pos z]; exact g5 _
    · rw [if_neg z]; exact g5 _
theorem SL_tk1 (hL : SL A B) {m : Nat} (hm : A.N 3 = m + 1) (h60 : A.N 2 ≤ 60) : SL (A.tk 1 m) (B.dlv 1 m) := by
  obtain ⟨g1, g2, g3, g4, g5⟩ := hL
  have n3 : (A.tk 1 m).N 3 = m := tk_Nx A 1 m
  refine ⟨?_, ?_, fun s j h4 h5 hj => ?_, fun s j h4 h5 hj => ?_, fun j => ?_⟩
  · rw [dlv_16, pk_un (by omega), tk_N A 1 m 2 (by omega)]; exact g1
  · rw [dlv_16, pk_us, n3]
  · rw [tk_N A 1 m 2 (by omega)] at hj
    rw [tk_T A 1 m s (by omega), dlv_m _ _ _ s ⟨h4, h5⟩]
    show _ = (if 64 * 1 ≤ j ∧ j < 64 * 1 + m then B.T s (j + 1) else B.T s j)
    rw [if_neg (by omega)]
    exact g3 s j h4 h5 hj
  · rw [n3] at hj
    rw [tk_Tm A 1 m (s + 10) j (by omega), rot_low hj, dlv_m _ _ _ s ⟨h4, h5⟩]
    show _ = (if 64 * 1 ≤ 64 + j ∧ 64 + j < 64 * 1 + m then B.T s (64 + j + 1) else B.T s (64 + j))
    rw [if_pos (by omega)]
    exact g4 s (j + 1) h4 h5 (by omega)
  · rw [dlv_m _ _ _ 15 (by omega)]
    show (if 64 * 1 ≤ j ∧ j < 64 * 1 + m then B.T 15 (j + 1) else B.T 15 j) = 0 ∨ (if 64 * 1 ≤ j ∧ j < 64 * 1 + m then B.T 15 (j + 1) else B.T 15 j) = 1
    by_cases z : 64 * 1 ≤ j ∧ j < 64 * 1 + m
    · rw [if_pos z]; exact g5 _
    · rw [if_neg z]; exact g5 _
theorem tk_rlen (x m q : Nat) : rlen (A.tk x m) q = rlen A q := rlen_of (tk_T _ _ _ 3 (by omega)) (tk_T _ _ _ 5 (by omega)) q
theorem SM_tk0 (hM : SM A) {m : Nat} (hm : A.N 2 = m + 1) : SM (A.tk 0 m) := by
  have n2 : (A.tk 0 m).N 2 = m := tk_Nx A 0 m
  refine ⟨fun j hj => ?_, fun j hj => ?_⟩
  · rw [n2] at hj
    rw [tk_N A 0 m 0 (by omega), tk_Tm A 0 m 10 j (by omega), tk_Tm A 0 m 11 j (by omega), tk_Tm A 0 m 12 j (by omega), rot_low hj]
    exact hM.1 (j + 1) (by omega)
  · rw [tk_N A 0 m 3 (by omega)] at hj
    rw [tk_N A 0 m 0 (by omega), tk_T A 0 m 20 (by omega), tk_T A 0 m 21 (by omega), tk_T A 0 m 22 (by omega)]
    obtain ⟨q, h1, h2, h3⟩ := hM.2 j hj
    exact ⟨q, h1, h2, by rw [tk_rlen]; exact h3⟩
theorem SM_tk1 (hM : SM A) {m : Nat} (hm : A.N 3 = m + 1) : SM (A.tk 1 m) := by
  have n3 : (A.tk 1 m).N 3 = m := tk_Nx A 1 m
  refine ⟨fun j hj => ?_, fun j hj => ?_⟩
  · rw [tk_N A 1 m 2 (by omega)] at hj
    rw [tk_N A 1 m 0 (by omega), tk_T A 1 m 10 (by omega), tk_T A 1 m 11 (by omega), tk_T A 1 m 12 (by omega)]
    exact hM.1 j hj
  · rw [n3] at hj
    rw [tk_N A 1 m 0 (by omega), tk_Tm A 1 m 20 j (by omega), tk_Tm A 1 m 21 j (by omega), tk_Tm A 1 m 22 j (by omega), rot_low hj]
    obtain ⟨q, h1, h2, h3⟩ := hM.2 (j + 1) (by omega)
    exact ⟨q, h1, h2, by rw [tk_rlen]; exact h3⟩
theorem part_le : ∀ c, c < 4 → ∀ p, p < 4 → (nI c - 1 ≤ nI p ↔ c ≤ p + 1) := by decide
theorem sim_up (h : Sim t A B) (ht : t + 3 < 2 ^ 30) (hs : ¬ A.I 1 = 0) {m q f c : Nat} (hm : A.N 2 = m + 1) (hqn : q < A.N 0) (hf : B.T 5 q = nI f) (hc : B.T 6 q = nI c) (hfc : f + c ≤ 16) (hw : (B.dlv 0 m).wkR q (A.N 3) f c (if B.T 11 0 = 0 then 1 else B.T 12 0 + 1) B') : Sim (t + 3) ((A.tk 0 m).wk q (if A.T 11 0 = 1 then A.T 12 0 else 0)) B' := by
  have hz := h.sizes
  obtain ⟨W, hQ, hL, hC, hM, hW, hR, hS⟩ := h
  have hsw := hW hs
  obtain ⟨r3, r4, r5, r6, r7, rk⟩ := hQ.2.2 q hqn
  obtain ⟨k4, k5, kf, kc⟩ := rk.f
  have ef : fN A q = f := (nI_eq (by omega) (by omega)).mp (k4.symm.trans (r4.trans hf))
  have ec : cN A q = c := (nI_eq (by omega) (by omega)).mp (k5.symm.trans (r5.trans hc))
  have hc3 : c ≤ 3 := by omega
  have e11 : A.T 11 0 = B.T 11 0 := hL.2.2.1 11 0 (by omega) (by omega) (by omega)
  have e12 : A.T 12 0 = B.T 12 0 := hL.2.2.1 12 0 (by omega) (by omega) (by omega)
  obtain ⟨p, hp3, ep, enx⟩ : ∃ p : Nat, p ≤ 3 ∧ (if A.T 11 0 = 1 then A.T 12 0 else 0) = nI p ∧ (if B.T 11 0 = 0 then 1 else B.T 12 0 + 1) = nI (p + 1) := by
    rw [← e11, ← e12]
    obtain ⟨q', -, -, z | ⟨z, p, hp, e⟩⟩ := hM.1 0 (by omega)
    · exact ⟨0, by omega, by rw [z, if_neg (by decide), nI_0], by rw [z, if_pos rfl]; decide⟩
    · exact ⟨p, hp, by rw [if_pos z, e], by rw [z, if_neg (by decide), e, nI_1]⟩
  rw [ep]
  rw [enx] at hw
  have S1 : Sm t W (A.tk 0 m) (B.dlv 0 m) := ⟨hs, SQ_of (A := A) (B := B) (tk_N A 0 m 0 (by omega)) (fun k h1 h2 => tk_T A 0 m k (by omega)) rfl (fun k h1 h2 => dlv_low B 0 m k (by omega)) hQ, SL_tk0 hL hm (by omega), SC_of (A := A) (B := B) (tk_N A 0 m 1 (by omega)) (tk_N A 0 m 4 (by omega)) (fun k h1 => tk_T A 0 m k (by omega)) (fun _ _ _ => rfl) (fun k h1 h2 => dlv_low B 0 m k (by omega)) hC, SM_tk0 hM hm, SR_of (A := A) (B := B) (tk_N A 0 m 0 (by omega)) (tk_N A 0 m 3 (by omega)) (tk_T A 0 m 3 (by omega)) (tk_T A 0 m 5 (by omega)) (tk_T A 0 m 7 (by omega)) (fun k h1 h2 => tk_T A 0 m k (by omega)) rfl (dlv_low B 0 m 9 (by omega)) hR, ⟨hS.1, hS.2.1, hS.2.2.1, hS.2.2.2.1, hS.2.2.2.2.1, hS.2.2.2.2.2.1, fun z => absurd z hs, fun z => hS.2.2.2.2.2.2.2 hs⟩⟩
  have n2 : (A.tk 0 m).N 2 = m := tk_Nx A 0 m
  have n3 : (A.tk 0 m).N 3 = A.N 3 := tk_N A 0 m 3 (by omega)
  have n0 : (A.tk 0 m).N 0 = A.N 0 := tk_N A 0 m 0 (by omega)
  have W1 : SWd t W 1 0 (A.tk 0 m) := by
    obtain ⟨S, sd, i3, i5, i4, sum, le, lt, suf, car⟩ := hsw
    unfold SWd
    rw [n2, n3, tk_T A 0 m 21 (by omega), tk_T A 0 m 24 (by omega)]
    exact ⟨S, sd, i3, i5, i4, by omega, le, lt, suf, car⟩
  have aT : ∀ k, k < 10 → (A.tk 0 m).T k = A.T k := fun k hk => tk_T A 0 m k (by omega)
  have bT : ∀ k, k < 10 → (B.dlv 0 m).T k = B.T k := fun k hk => dlv_low _ _ _ _ hk
  have f1 : fN (A.tk 0 m) q = f := by unfold fN; rw [aT 4 (by omega)]; exact ef
  have c1 : cN (A.tk 0 m) q = c := by unfold cN; rw [aT 5 (by omega)]; exact ec
  have t5 : (A.tk 0 m).T 5 q = nI c := by rw [aT 5 (by omega), k5, ec]
  have t6 : (A.tk 0 m).T 6 q = (B.dlv 0 m).T 7 q := by rw [aT 6 (by omega), bT 7 (by omega)]; exact r6
  have b3 : (A.tk 0 m).T 3 q = (B.dlv 0 m).T 4 q := by rw [aT 3 (by omega), bT 4 (by omega)]; exact r3
  have b6 : (B.dlv 0 m).T 6 q = nI c := by rw [bT 6 (by omega)]; exact hc
  unfold G1.wk
  rcases hw with ⟨w4, ⟨hn, B2, hpt, rfl⟩ | ⟨hn, rfl⟩⟩ | ⟨w4, ⟨w1, rfl⟩ | ⟨w1, B2, hfl, rfl⟩⟩
  · rw [if_pos (b3.trans w4)]
    unfold G1.wp
    rw [b6] at hn
    have hcp : c ≤ p + 1 := Nat.le_of_not_lt (fun y => hn ((nI_ltI (by omega) (by omega)).mpr y))
    rw [t5, if_pos ((part_le c (by omega) p (by omega)).mpr hcp), f1, c1, t6]
    have hC2 := SC_up (t' := t + 3) (by omega) (SC_ptn S1.2.2.2.1 (by omega) hfc hpt)
    have same := ptN_same hpt
    have S2 := Sm_store (t' := t + 3) S1 (fun k hk => ptn_N _ _ _ k hk c) (ptn_I _ _ _ c) (fun k hk => ptn_T _ _ _ k hk c) (ptn_R _ _ _ c) same.1 same.2 hC2
    have W2 := SWd_of (A' := (A.tk 0 m).ptn f ((B.dlv 0 m).T 7 q) c) (t' := t + 3) (by omega) (fun k _ _ => by rw [ptn_I _ _ _ c]) (ptn_N _ _ _ 2 (by omega) c) (ptn_N _ _ _ 3 (by omega) c) (ptn_T _ _ _ 21 (by omega) c) (ptn_T _ _ _ 24 (by omega) c) W1
    have F := Sm_fin S2 W2 (by omega) (by rw [ptn_N _ _ _ 2 (by omega) c, n2]; omega) (q := q) (by rw [ptn_N _ _ _ 0 (by omega) c, n0]; exact hqn) (fun z => by
      rw [ptn_T _ _ _ 3 (by omega) c, b3, w4] at z
      exact absurd z (by decide))
    rw [ptn_N _ _ _ 3 (by omega) c, n3] at F
    exact F
  · rw [if_pos (b3.trans w4)]
    unfold G1.wp
    rw [b6] at hn
    have hcp : p + 1 < c := (nI_ltI (by omega) (by omega)).mp hn
    rw [t5, if_neg (fun y => by have := (part_le c (by omega) p (by omega)).mp y; omega), nI_1]
    have hi := S1.i4
    have S2 := Sm_snd S1 (by rw [n2]; omega) (q := q) (by rw [n0]; exact hqn) 2 (nI (p + 1)) 0 ((A.tk 0 m).I 4 + (A.tk 0 m).I 0) (Or.inl ⟨rfl, p + 1, by omega, rfl⟩) (fun z => absurd z (by decide))
    have W2 := SWd_ask W1 S1.2.2.2.2.2.2.2.2.1 (nI q) (nI (p + 1)) 0
    have F := (Sm.sim S2 W2).up (t' := t + 3) (by omega)
    rw [n3] at F
    rw [← hi.1, ← hi.2]
    exact F
  · rw [if_neg (fun y => w4 (b3.symm.trans y)), if_pos (b3.trans w1), f1, c1]
    have rl : rlen (A.tk 0 m) q = c := by
      unfold rlen
      rw [if_pos (b3.trans w1)]
      exact c1
    obtain ⟨S2, W2, pcs⟩ := Sm_rdn (f := f) S1 W1 (by omega) (by rw [n2]; omega) (q := q) (by rw [n0]; exact hqn) c (by omega) hfc
    have m3 : ((A.tk 0 m).rdn (nI q) f c).N 3 = A.N 3 + c := by rw [rdn_N, if_pos rfl, n3]
    have F := Sm_fin S2 W2 (by omega) (by rw [rdn_N, if_neg (by omega), n2]; omega) (q := q) (by rw [rdn_N, if_neg (by omega), n0]; exact hqn) (fun _ k hk => by
      right
      have ek : cN ((A.tk 0 m).rdn (nI q) f c) q = c := by unfold cN; rw [rdn_T _ _ _ 5 (by omega) c]; exact c1
      rw [ek] at hk
      rw [n3] at pcs
      exact ⟨A.N 3 + k, by rw [m3]; omega, pcs k hk⟩)
    rw [m3, n3] at F
    exact F.up (by omega)
  · rw [if_neg (fun y => w4 (b3.symm.trans y)), if_neg (fun y => w1 (b3.symm.trans y))]
    have h16 : (A.tk 0 m).N 1 ≤ 16 := by have := S1.2.2.2.1.2.1; have := S1.2.2.2.1.2.2.2.1; omega
    rw [← wbn_all h16]
    have hC2 := SC_wbn S1.2.2.2.1 (by omega) hfl
    have same := flN_same hfl
    have S2 := Sm_store (t' := t) S1 (fun k hk => wbn_N _ k hk 16) (wbn_I _ 16) (fun k hk => wbn_T _ k hk 16) (wbn_R _ 16) (fun k _ => by rw [same.1]) (fun k hk => same.2 k (by omega) (by omega)) hC2
    have W2 := SWd_of (t' := t) (by omega) (fun k _ _ => by rw [wbn_I _ 16]) (wbn_N _ 2 (by omega) 16) (wbn_N _ 3 (by omega) 16) (wbn_T _ 21 (by omega) 16) (wbn_T _ 24 (by omega) 16) W1
    have F := Sm_fin S2 W2 (by omega) (by rw [wbn_N _ 2 (by omega) 16, n2]; omega) (q := q) (by rw [wbn_N _ 0 (by omega) 16, n0]; exact hqn) (fun z => by
      rw [wbn_T _ 3 (by omega) 16] at z
      exact absurd (b3.symm.trans z) w1)
    rw [wbn_N _ 3 (by omega) 16, n3] at F
    exact F.up (by omega)
end UPD
