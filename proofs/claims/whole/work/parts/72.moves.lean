/-! moves of both sides: a new request, a break, a login, a crash, damage -/
section MOVES
variable {t W : Nat} {A A' : G1} {B B' : G2}
theorem SW_up {t' : Nat} (ht : t ≤ t') (h : SW t W A) : SW t' W A := by
  obtain ⟨S, sd, a, b, c, d, e, f, g⟩ := h
  exact ⟨S, sd, a, b, c, d, e, by omega, g⟩
theorem Sim.up {t' : Nat} (ht : t ≤ t') (h : Sim t A B) : Sim t' A B := by
  obtain ⟨W, a, b, c, d, e, f, g⟩ := h
  exact ⟨W, a, b, SC_up ht c, d, fun z => SW_up ht (e z), f, g⟩
theorem Sim.n (h : Sim t A B) : A.N 0 ≤ 120 ∧ B.I 3 = nI (A.N 0) := by
  obtain ⟨W, a, -⟩ := h
  exact ⟨a.1, a.2.1⟩
theorem Sim.rl (h : Sim t A B) : ∀ j, j < A.N 0 → rlen A j ≤ 3 := fun j hj => by
  obtain ⟨W, a, -⟩ := h
  obtain ⟨f, c, e1, e2, e3, e4⟩ := (a.2.2 j hj).2.2.2.2.2
  unfold rlen
  split
  · rw [e2, pk_cl c]; exact e4
  · omega
theorem addq2_T (n : Nat) (k f c v : Int32) (s : Nat) (hs : ¬ (4 ≤ s ∧ s ≤ 8)) : (B.addq n k f c v).T s = B.T s := by
  show (((((B.sT 4 (upd (B.T 4) n k)).sT 5 (upd (B.T 5) n f)).sT 6 (upd (B.T 6) n c)).sT 7 (upd (B.T 7) n v)).sT 8 (upd (B.T 8) n 0)).T s = _
  rw [sT2_ne _ _ _ _ (by omega), sT2_ne _ _ _ _ (by omega), sT2_ne _ _ _ _ (by omega), sT2_ne _ _ _ _ (by omega), sT2_ne _ _ _ _ (by omega)]
theorem addq2_lo (n : Nat) (k f c v : Int32) (s i : Nat) (hi : i < n) : (B.addq n k f c v).T s i = B.T s i := by
  by_cases hs : 4 ≤ s ∧ s ≤ 8
  · rcases (show s = 4 ∨ s = 5 ∨ s = 6 ∨ s = 7 ∨ s = 8 by omega) with rfl | rfl | rfl | rfl | rfl
    · exact pk_un (f := B.T 4) (k := n) (x := k) (by omega)
    · exact pk_un (f := B.T 5) (k := n) (x := f) (by omega)
    · exact pk_un (f := B.T 6) (k := n) (x := c) (by omega)
    · exact pk_un (f := B.T 7) (k := n) (x := v) (by omega)
    · exact pk_un (f := B.T 8) (k := n) (x := 0) (by omega)
  · rw [addq2_T _ _ _ _ _ s hs]
theorem sim_add (h : Sim t A B) (hn : A.N 0 < 120) {k f c v : Int32} (hr : ∃ f' c' : Nat, f = nI f' ∧ c = nI c' ∧ f' + c' ≤ 16 ∧ c' ≤ 3) : Sim t (A.addq k f c v) (B.addq (A.N 0) k f c v) := by
  obtain ⟨W, hQ, hL, hC, hM, hW, hR, hS⟩ := h
  have e3 : ∀ s, ¬ (3 ≤ s ∧ s ≤ 7) → (A.addq k f c v).T s = A.T s := fun s hs => addq_Tt A k f c v s hs
  have eN : (A.addq k f c v).N 0 = A.N 0 + 1 := rfl
  have lo : ∀ s i, i < A.N 0 → (A.addq k f c v).T s i = A.T s i := fun s i hi => addq_T A k f c v s i (by omega)
  have lB : ∀ s i, i < A.N 0 → (B.addq (A.N 0) k f c v).T s i = B.T s i := fun s i hi => addq2_lo _ _ _ _ _ s i hi
  have rl : ∀ q, q < A.N 0 → rlen (A.addq k f c v) q = rlen A q := fun q hq => by unfold rlen; rw [lo 3 q hq, lo 5 q hq]
  have cn : ∀ q, q < A.N 0 → cN (A.addq k f c v) q = cN A q := fun q hq => by unfold cN; rw [lo 5 q hq]
  have rr : ∀ q, q < A.N 0 → (A.addq k f c v).R q = A.R q := fun q hq => by
    show va_up A.2.2.2 (A.N 0) (fun _ => 0) q = _
    rw [va_up_ne _ _ (by omega)]
  refine ⟨W, ⟨?_, ?_, fun i hi => ?_⟩, ?_, ?_, ⟨fun j hj => ?_, fun j hj => ?_⟩, fun z => ?_, ⟨fun i hi => ?_, fun j q hj => ?_⟩, ?_⟩
  · rw [eN]; omega
  · rfl
  · rw [eN] at hi
    by_cases c1 : i = A.N 0
    · subst c1
      rw [addq_Tn _ _ _ _ _ 3 (by omega), addq_Tn _ _ _ _ _ 4 (by omega), addq_Tn _ _ _ _ _ 5 (by omega), addq_Tn _ _ _ _ _ 6 (by omega), addq_Tn _ _ _ _ _ 7 (by omega)]
      refine ⟨(pk_us (f := B.T 4) (k := A.N 0) (x := k)).symm, (pk_us (f := B.T 5) (k := A.N 0) (x := f)).symm, (pk_us (f := B.T 6) (k := A.N 0) (x := c)).symm, (pk_us (f := B.T 7) (k := A.N 0) (x := v)).symm, (pk_us (f := B.T 8) (k := A.N 0) (x := 0)).symm, ?_⟩
      obtain ⟨f', c', rfl, rfl, h1, h2⟩ := hr
      exact ⟨f', c', addq_Tn A k _ _ v 4 (by omega), addq_Tn A k _ _ v 5 (by omega), h1, h2⟩
    · have hi' : i < A.N 0 := by omega
      obtain ⟨a, b, d, e, g, x, y, h1, h2, h3⟩ := hQ.2.2 i hi'
      rw [lo 3 i hi', lo 4 i hi', lo 5 i hi', lo 6 i hi', lo 7 i hi', lB 4 i hi', lB 5 i hi', lB 6 i hi', lB 7 i hi', lB 8 i hi']
      exact ⟨a, b, d, e, g, x, y, by rw [lo 4 i hi']; exact h1, by rw [lo 5 i hi']; exact h2, h3⟩
  · exact SL_of (A := A) (B := B) rfl rfl (fun s h1 h2 => e3 s (by omega)) (fun s h1 h2 => addq2_T _ _ _ _ _ s (by omega)) hL
  · exact SC_of (A := A) (B := B) rfl rfl (fun s h1 => e3 s (by omega)) (fun s h1 h2 => va_up_ne _ _ (by omega)) (fun s h1 h2 => addq2_T _ _ _ _ _ s (by omega)) hC
  · obtain ⟨q, hq, e, r⟩ := hM.1 j hj
    rw [e3 10 (by omega), e3 11 (by omega), e3 12 (by omega)]
    exact ⟨q, by rw [eN]; omega, e, r⟩
  · obtain ⟨q, hq, e, r⟩ := hM.2 j hj
    rw [e3 20 (by omega), e3 21 (by omega), e3 22 (by omega)]
    refine ⟨q, by rw [eN]; omega, e, ?_⟩
    rw [rl q hq]
    exact r
  · exact SW_of (A := A) (Nat.le_refl t) (fun _ _ _ => rfl) rfl rfl (e3 21 (by omega)) (e3 24 (by omega)) (hW z)
  · intro s7 s3 kk hk
    rw [eN] at hi
    by_cases c1 : i = A.N 0
    · subst c1
      rw [addq_Tn _ _ _ _ _ 7 (by omega)] at s7
      have : (0 : Int32) = 2 := s7
      exact absurd this (by decide)
    · have hi' : i < A.N 0 := by omega
      rw [lo 7 i hi'] at s7
      rw [lo 3 i hi'] at s3
      rw [cn i hi'] at hk
      rw [addq2_T _ _ _ _ _ 9 (by omega), rr i hi']
      exact hR.1 i hi' s7 s3 kk hk
  · intro s21 s20 hq s3 kk hk
    obtain ⟨q0, hq0, e, -⟩ := hM.2 j hj
    rw [eN] at hq
    rw [e3 20 (by omega)] at s20
    have eq : q = q0 := (nI_eq (by omega) (by omega)).mp (s20.symm.trans e)
    subst eq
    rw [e3 21 (by omega)] at s21
    rw [lo 3 q hq0] at s3
    rw [cn q hq0] at hk
    rw [addq2_T _ _ _ _ _ 9 (by omega), rr q hq0, e3 20 (by omega), e3 21 (by omega), e3 22 (by omega)]
    exact hR.2 j q hj s21 s20 hq0 s3 kk hk
  · exact SS_of (A := A) (B := B) (fun _ _ => rfl) rfl rfl (fun s h1 h2 h3 => va_up_ne _ _ h3) hS
theorem rop_in {f : Nat → Int32} {n i : Nat} (hi : i < n) : rop f n i = if f i = 1 then 0 else f i := by
  simp only [rop, hi, true_and]
theorem sim_bk (h : Sim t A B) (n0 : A'.N 0 = A.N 0) (n1 : A'.N 1 = A.N 1) (n4 : A'.N 4 = A.N 4) (hT : ∀ s, s < 10 → A'.T s = A.T s) (hI : A'.I = A.I) {rr : Nat → Nat → Int32} (hrr : ∀ j, A.T 7 j ≠ 1 → rr j = A.R j) : Sim t (A'.bk rr) (B.end_ (A.N 0)) := by
  obtain ⟨W, hQ, hL, hC, hM, hW, hR2, hS⟩ := h
  have b7 : (A'.bk rr).T 7 = rop (A.T 7) (A.N 0) := by
    show rop (A'.T 7) (A'.N 0) = _
    rw [hT 7 (by omega), n0]
  have bT : ∀ s, s < 10 → s ≠ 7 → (A'.bk rr).T s = A.T s := fun s hs h7 => by
    show va_up A'.cl2.2.2.1 7 _ s = _
    rw [va_up_ne _ _ h7]
    exact hT s hs
  have c8 : (B.end_ (A.N 0)).T 8 = rop (B.T 8) (A.N 0) := rfl
  have cT : ∀ s, s ≠ 8 → s ≠ 16 → (B.end_ (A.N 0)).T s = B.T s := fun s h8 h16 => by
    unfold G2.end_
    rw [sT2_ne _ _ _ _ h8, sT2_ne _ _ _ _ h16, sT2_ne _ _ _ _ h16]
    rfl
  have lt : ∀ i, i < (A'.bk rr).N 0 → i < A.N 0 := fun i hi => by
    have : i < A'.N 0 := hi
    omega
  refine ⟨W, ⟨by show A'.N 0 ≤ 120; rw [n0]; exact hQ.1, by show B.I 3 = nI (A'.N 0); rw [n0]; exact hQ.2.1, fun i hi => ?_⟩, ⟨?_, ?_, fun s j _ _ hj => absurd hj (Nat.not_lt_zero j), fun s j _ _ hj => absurd hj (Nat.not_lt_zero j), fun j => ?_⟩, ?_, ⟨fun j hj => absurd hj (Nat.not_lt_zero j), fun j hj => absurd hj (Nat.not_lt_zero j)⟩, fun z => absurd rfl z, ⟨fun i hi => ?_, fun j q hj => absurd hj (Nat.not_lt_zero j)⟩, ?_⟩
  · have hi' := lt i hi
    obtain ⟨a, b, c, d, e, g⟩ := hQ.2.2 i hi'
    rw [bT 3 (by omega) (by omega), bT 4 (by omega) (by omega), bT 5 (by omega) (by omega), bT 6 (by omega) (by omega), b7, cT 4 (by omega) (by omega), cT 5 (by omega) (by omega), cT 6 (by omega) (by omega), cT 7 (by omega) (by omega), c8]
    exact ⟨a, b, c, d, by rw [rop_in hi', rop_in hi', e], rOK_of (fun k h1 h2 => bT k (by omega) (by omega)) g⟩
  · show upd (upd (B.T 16) 0 0) 1 0 0 = nI 0
    rw [pk_un (by omega), pk_us, nI_0]
  · show upd (upd (B.T 16) 0 0) 1 0 1 = nI 0
    rw [pk_us, nI_0]
  · rw [cT 15 (by omega) (by omega)]
    exact hL.2.2.2.2 j
  · exact SC_of (show A'.N 1 = A.N 1 from n1) (show A'.N 4 = A.N 4 from n4) (fun s hs => bT s (by omega) (by omega)) (fun s h1 h2 => va_up_ne _ _ (by omega)) (fun s h1 h2 => cT s (by omega) (by omega)) hC
  · have hi' := lt i hi
    rw [b7, bT 3 (by omega) (by omega), cT 9 (by omega) (by omega)]
    intro s7 s3 kk hk
    rw [rop_in hi'] at s7
    have e7 : A.T 7 i = 2 := by
      by_cases z : A.T 7 i = 1
      · rw [if_pos z] at s7; exact absurd s7 (by decide)
      · rw [if_neg z] at s7; exact s7
    have ec : cN (A'.bk rr) i = cN A i := by unfold cN; rw [bT 5 (by omega) (by omega)]
    rw [ec] at hk
    show rr i kk = _
    rw [hrr i (by rw [e7]; decide)]
    exact hR2.1 i hi' e7 s3 kk hk
  · exact ⟨hS.1, hS.2.1, by show A'.I 0 = _; rw [hI]; exact hS.2.2.1, hS.2.2.2.1, rfl, by show A'.I 2 = B.I 8; rw [hI]; exact hS.2.2.2.2.2.1, fun _ => ⟨rfl, rfl, rfl, rfl, rfl⟩, fun z => absurd rfl z⟩
theorem sim_bg (h : Sim t A B) (hz : A.I 1 = 0) : Sim t A.bg B.bg := by
  obtain ⟨W, hQ, hL, hC, hM, hW, hR, hS⟩ := h
  obtain ⟨z3, z4, z5, n2, n3⟩ := hS.2.2.2.2.2.2.1 hz
  refine ⟨W, SQ_of (A := A) (B := B) rfl (fun _ _ _ => rfl) rfl (fun _ _ _ => rfl) hQ, SL_of (A := A) (B := B) rfl rfl (fun _ _ _ => rfl) (fun _ _ _ => rfl) hL, SC_of (A := A) (B := B) rfl rfl (fun _ _ => rfl) (fun k h1 h2 => ?_) (fun _ _ _ => rfl) hC, SM_of (A := A) rfl rfl rfl (fun _ _ _ => rfl) rfl rfl hM, fun _ => ⟨0, 0, nI_0.symm, ?_, ?_, ?_, Nat.zero_le _, Nat.zero_le _, fun k hk => ?_, fun j hj => ?_⟩, SR_of (A := A) (B := B) rfl rfl rfl rfl rfl (fun _ _ _ => rfl) rfl rfl hR, ?_⟩
  · rcases (show k = 1 ∨ k = 2 by omega) with rfl | rfl <;> rfl
  · show A.I 0 = nI (0 + W)
    rw [Nat.zero_add]
    exact hS.2.2.1
  · show (0 : Int32) = nI (0 + cnt (A.T 21) 4 (A.N 3))
    rw [n3]
    exact nI_0.symm
  · show A.N 2 + cnt (A.T 21) 2 (A.N 3) + cnt (A.T 21) 4 (A.N 3) + 0 = 0
    rw [n2, n3]
    rfl
  · have hk' : k ≤ A.N 3 := hk
    show cnt (A.T 21) 3 (A.N 3) + 3 * cnt (A.T 21) 4 k ≤ 3 * cnt (A.T 21) 4 (A.N 3) + cnt (A.T 21) 3 k
    have : k = A.N 3 := by omega
    rw [this]
    omega
  · have : j < A.N 3 := hj
    omega
  · exact ⟨hS.1, hS.2.1, hS.2.2.1, hS.2.2.2.1, rfl, by show A.I 2 + 1 = B.I 8 + 1; rw [hS.2.2.2.2.2.1], fun z => absurd (show (1 : Int32) = 0 from z) (by decide), fun _ => ⟨rfl, rfl, show A.I 0 = B.I 0 from hS.2.2.1.trans hS.2.2.2.1.symm⟩⟩
/-- the store alone moves -/
theorem sim_store {t' : Nat} (ht : t ≤ t') (h : Sim t A B) (hN : ∀ k, k ≠ 1 → A'.N k = A.N k) (hI : A'.I = A.I) (hT : ∀ k, 3 ≤ k → A'.T k = A.T k) (hR : A'.R = A.R) (hJ : ∀ k, k ≠ 2 → B'.I k = B.I k) (hU : ∀ k, 4 ≤ k → B'.T k = B.T k) (hC : SC t' A' B') : Sim t' A' B' := by
  obtain ⟨W, hQ, hL, -, hM, hW, hR2, hS⟩ := h
  exact ⟨W, SQ_of (hN 0 (by omega)) (fun k h1 _ => hT k h1) (hJ 3 (by omega)) (fun k h1 _ => hU k h1) hQ, SL_of (hN 2 (by omega)) (hN 3 (by omega)) (fun k h1 _ => hT k (by omega)) (fun k h1 _ => hU k (by omega)) hL, hC, SM_of (hN 0 (by omega)) (hN 2 (by omega)) (hN 3 (by omega)) (fun k h1 _ => hT k (by omega)) (hT 3 (by omega)) (hT 5 (by omega)) hM, fun z => SW_of ht (fun k _ _ => by rw [hI]) (hN 2 (by omega)) (hN 3 (by omega)) (hT 21 (by omega)) (hT 24 (by omega)) (hW (by rw [hI] at z; exact z)), SR_of (hN 0 (by omega)) (hN 3 (by omega)) (hT 3 (by omega)) (hT 5 (by omega)) (hT 7 (by omega)) (fun k h1 _ => hT k (by omega)) hR (hU 9 (by omega)) hR2, SS_of (A := A) (B := B) (fun k _ => by rw [hI]) (hN 2 (by omega)) (hN 3 (by omega)) (fun k _ h2 _ => hJ k h2) hS⟩
theorem SC_crash (h : SC t A B) : SC t (A.sN 1 0) (B.sT 3 (zer (B.T 3) 16)) := by
  obtain ⟨a, b, c, d, e, bl, s, clk, f, g, -⟩ := h
  refine ⟨a, b, c, Nat.zero_le _, e, fun _ => 0, fun _ => 0, clk, f, g, fun b hb => ⟨?_, Nat.zero_le _⟩, fun j hj => absurd hj (Nat.not_lt_zero j), fun j j' _ hj => absurd hj (Nat.not_lt_zero _), fun b _ z => absurd z (Nat.lt_irrefl 0)⟩
  show zer (B.T 3) 16 b = nI 0
  rw [nI_0]
  exact if_pos hb
theorem sim_crash (h : Sim t A B) : Sim t (A.sN 1 0) (B.sT 3 (zer (B.T 3) 16)) := by
  have hC := h
  obtain ⟨W, -, -, hC, -⟩ := hC
  exact sim_store (A := A) (B := B) (Nat.le_refl t) h (fun k hk => va_up_ne _ _ hk) rfl (fun _ _ => rfl) rfl (fun _ _ => rfl) (fun k hk => sT2_ne _ _ _ _ (by omega)) (SC_crash hC)
theorem SL_dm (hL : SL A B) (h2 : A.N 2 ≤ 4) (x j : Nat) (hx : x < 2) (hj : j < A.N (2 + x)) : SL (A.dm x j) (B.sT 15 (upd (B.T 15) (64 * x + j) 1)) := by
  obtain ⟨a, b, c, d, e⟩ := hL
  have u : ∀ s i, (s = 15 → i ≠ 64 * x + j) → (B.sT 15 (upd (B.T 15) (64 * x + j) 1)).T s i = B.T s i := fun s i h => by
    by_cases z : s = 15
    · subst z
      rw [sT2_at, pk_un (h rfl)]
    · rw [sT2_ne _ _ _ _ z]
  have ua : (B.sT 15 (upd (B.T 15) (64 * x + j) 1)).T 15 (64 * x + j) = 1 := by rw [sT2_at, pk_us]
  refine ⟨?_, ?_, fun s i h4 h5 hi => ?_, fun s i h4 h5 hi => ?_, fun i => ?_⟩
  · rw [u 16 0 (by omega)]; exact a
  · rw [u 16 1 (by omega)]; exact b
  · have hi' : i < A.N 2 := hi
    by_cases z : s = 15 ∧ i = 64 * x + j
    · obtain ⟨rfl, rfl⟩ := z
      have hx0 : x = 0 := by omega
      subst hx0
      rw [ua]
      have := dm_at A 0 j
      rw [show 64 * 0 + j = j by omega]
      exact this
    · rw [dm_T A x j s i (by omega), u s i (by omega)]
      exact c s i h4 h5 hi'
  · have hi' : i < A.N 3 := hi
    by_cases z : s = 15 ∧ 64 + i = 64 * x + j
    · obtain ⟨rfl, z⟩ := z
      have hx1 : x = 1 := by
        rcases (show x = 0 ∨ x = 1 by omega) with rfl | rfl
        · have : j < A.N 2 := hj
          omega
        · rfl
      subst hx1
      have e1 : i = j := by omega
      subst e1
      have := dm_at A 1 i
      rw [show 64 + i = 64 * 1 + i by omega, ua]
      exact this
    · rw [dm_T A x j (s + 10) i (by omega), u s (64 + i) (by omega)]
      exact d s i h4 h5 hi'
  · by_cases z : i = 64 * x + j
    · subst z; rw [ua]; exact Or.inr rfl
    · rw [u 15 i (fun _ => z)]; exact e i
theorem sim_dm (h : Sim t A B) (x j : Nat) (hx : x < 2) (hj : j < A.N (2 + x)) : Sim t (A.dm x j) (B.sT 15 (upd (B.T 15) (64 * x + j) 1)) := by
  have hz := h.sizes
  obtain ⟨W, hQ, hL, hC, hM, hW, hR, hS⟩ := h
  have hL' := SL_dm hL hz.1 x j hx hj
  have bT : ∀ s, s ≠ 15 → (B.sT 15 (upd (B.T 15) (64 * x + j) 1)).T s = B.T s := fun s hs => sT2_ne _ _ _ _ hs
  have aT : ∀ s, s ≠ 15 → s ≠ 25 → (A.dm x j).T s = A.T s := fun s h1 h2 => va_up_ne _ _ (by omega)
  refine ⟨W, SQ_of (A := A) (B := B) rfl (fun k h1 h2 => aT k (by omega) (by omega)) rfl (fun k h1 h2 => bT k (by omega)) hQ, hL', SC_of (A := A) (B := B) rfl rfl (fun k h1 => aT k (by omega) (by omega)) (fun _ _ _ => rfl) (fun k h1 h2 => bT k (by omega)) hC, ⟨fun i hi => ?_, fun i hi => ?_⟩, fun z => SW_of (A := A) (Nat.le_refl t) (fun _ _ _ => rfl) rfl rfl (aT 21 (by omega) (by omega)) (aT 24 (by omega) (by omega)) (hW z), SR_of (A := A) (B := B) rfl rfl (aT 3 (by omega) (by omega)) (aT 5 (by omega) (by omega)) (aT 7 (by omega) (by omega)) (fun k h1 h2 => aT k (by omega) (by omega)) rfl (bT 9 (by omega)) hR, SS_of (A := A) (B := B) (fun _ _ => rfl) rfl rfl (fun _ _ _ _ => rfl) hS⟩
  · rw [aT 10 (by omega) (by omega), aT 11 (by omega) (by omega), aT 12 (by omega) (by omega)]
    exact hM.1 i hi
  · obtain ⟨q, hq, e, r⟩ := hM.2 i hi
    rw [aT 20 (by omega) (by omega), aT 21 (by omega) (by omega), aT 22 (by omega) (by omega)]
    refine ⟨q, hq, e, ?_⟩
    rw [rlen_of (aT 3 (by omega) (by omega)) (aT 5 (by omega) (by omega))]
    exact r
end MOVES
