/-! in a session: the target's messages -/
section MID
variable {t W d e : Nat} {A A' : G1} {B B' : G2}
theorem pst_T (x sz : Nat) (a b c v f : Int32) (s j : Nat) (hs : 10 ≤ s ∧ s ≤ 15) : (B.pst x sz a b c v f).T s j = if j = 64 * x + sz then v6 a b c v f 0 (s - 10) else B.T s j := by
  have key : ∀ (g : Nat → Int32) (y : Int32), upd g (64 * x + sz) y j = if j = 64 * x + sz then y else g j := fun g y => by
    by_cases h : j = 64 * x + sz
    · rw [if_pos h, h, pk_us]
    · rw [if_neg h, pk_un h]
  rcases (show s = 10 ∨ s = 11 ∨ s = 12 ∨ s = 13 ∨ s = 14 ∨ s = 15 by omega) with rfl | rfl | rfl | rfl | rfl | rfl
  · exact key (B.T 10) a
  · exact key (B.T 11) b
  · exact key (B.T 12) c
  · exact key (B.T 13) v
  · exact key (B.T 14) f
  · exact key (B.T 15) 0
theorem snd_Tm (x : Nat) (a b c v f : Int32) (s j : Nat) (hs : 10 + 10 * x ≤ s ∧ s ≤ 15 + 10 * x) : (A.snd x a b c v f).T s j = if j = A.N (2 + x) then v6 a b c v f 0 (s - (10 + 10 * x)) else A.T s j := by
  show (if 10 + 10 * x ≤ s ∧ s ≤ 15 + 10 * x ∧ j = A.N (2 + x) then v6 a b c v f 0 (s - (10 + 10 * x)) else A.T s j) = _
  by_cases h : j = A.N (2 + x)
  · rw [if_pos ⟨hs.1, hs.2, h⟩, if_pos h]
  · rw [if_neg (fun z => h z.2.2), if_neg h]
theorem SL_dn (hL : SL A B) (h2 : A.N 2 ≤ 60) (a b c v f : Int32) : SL (A.snd 1 a b c v f) (B.pst 1 (A.N 3) a b c v f) := by
  obtain ⟨g1, g2, g3, g4, g5⟩ := hL
  refine ⟨?_, ?_, fun s j h4 h5 hj => ?_, fun s j h4 h5 hj => ?_, fun j => ?_⟩
  · rw [pst_16, pk_un (by omega), snd_N, if_neg (by omega)]; exact g1
  · rw [pst_16, pk_us, snd_N, if_pos rfl]
  · rw [snd_N, if_neg (by omega)] at hj
    rw [snd1_up _ _ _ _ _ _ _ (by omega), pst_T _ _ _ _ _ _ _ s j ⟨h4, h5⟩, if_neg (by omega)]
    exact g3 s j h4 h5 hj
  · rw [snd_N, if_pos rfl] at hj
    rw [snd_Tm 1 _ _ _ _ _ (s + 10) j (by omega), pst_T _ _ _ _ _ _ _ s _ ⟨h4, h5⟩]
    show (if j = A.N 3 then _ else _) = _
    by_cases z : j = A.N 3
    · rw [if_pos z, if_pos (by omega), show s + 10 - (10 + 10 * 1) = s - 10 by omega]
    · rw [if_neg z, if_neg (by omega)]
      exact g4 s j h4 h5 (by have : j < A.N 3 + 1 := hj; omega)
  · rw [pst_T _ _ _ _ _ _ _ 15 j (by omega)]
    by_cases z : j = 64 * 1 + A.N 3
    · rw [if_pos z]; exact Or.inl rfl
    · rw [if_neg z]; exact g5 j
theorem SL_up (hL : SL A B) (h2 : A.N 2 ≤ 60) (a b c v f : Int32) : SL (A.snd 0 a b c v f) (B.pst 0 (A.N 2) a b c v f) := by
  obtain ⟨g1, g2, g3, g4, g5⟩ := hL
  refine ⟨?_, ?_, fun s j h4 h5 hj => ?_, fun s j h4 h5 hj => ?_, fun j => ?_⟩
  · rw [pst_16, pk_us, snd_N, if_pos rfl]
  · rw [pst_16, pk_un (by omega), snd_N, if_neg (by omega)]; exact g2
  · rw [snd_N, if_pos rfl] at hj
    rw [snd_Tm 0 _ _ _ _ _ s j (by omega), pst_T _ _ _ _ _ _ _ s _ ⟨h4, h5⟩]
    show (if j = A.N 2 then _ else _) = _
    by_cases z : j = A.N 2
    · rw [if_pos z, if_pos (by omega)]
    · rw [if_neg z, if_neg (by omega)]
      exact g3 s j h4 h5 (by have : j < A.N 2 + 1 := hj; omega)
  · rw [snd_N, if_neg (by omega)] at hj
    rw [snd0_down _ _ _ _ _ _ _ (by omega), pst_T _ _ _ _ _ _ _ s _ ⟨h4, h5⟩, if_neg (by omega)]
    exact g4 s j h4 h5 hj
  · rw [pst_T _ _ _ _ _ _ _ 15 j (by omega)]
    by_cases z : j = 64 * 0 + A.N 2
    · rw [if_pos z]; exact Or.inl rfl
    · rw [if_neg z]; exact g5 j
theorem snd_N0 (x : Nat) (a b c v f : Int32) : (A.snd x a b c v f).N 0 = A.N 0 := by rw [snd_N, if_neg (by omega)]
theorem snd_rlen (x : Nat) (a b c v f : Int32) (q : Nat) : rlen (A.snd x a b c v f) q = rlen A q := rlen_of (snd_T _ _ _ _ _ _ _ 3 (by omega)) (snd_T _ _ _ _ _ _ _ 5 (by omega)) q
theorem snd_cN (x : Nat) (a b c v f : Int32) (q : Nat) : cN (A.snd x a b c v f) q = cN A q := by unfold cN; rw [snd_T _ _ _ _ _ _ _ 5 (by omega)]
theorem SM_dn (hM : SM A) {q : Nat} (hq : q < A.N 0) {b c v f : Int32} (hr : (b = 2 ∧ ∃ p, p ≤ 3 ∧ c = nI p) ∨ (b = 3 ∧ ∃ k, c = nI k ∧ k < rlen A q) ∨ b = 4) : SM (A.snd 1 (nI q) b c v f) := by
  refine ⟨fun j hj => ?_, fun j hj => ?_⟩
  · rw [snd_N, if_neg (by omega)] at hj
    rw [snd_N0, snd1_up _ _ _ _ _ _ 10 (by omega), snd1_up _ _ _ _ _ _ 11 (by omega), snd1_up _ _ _ _ _ _ 12 (by omega)]
    exact hM.1 j hj
  · rw [snd_N, if_pos rfl] at hj
    rw [snd_N0, snd_Tm 1 _ _ _ _ _ 20 j (by omega), snd_Tm 1 _ _ _ _ _ 21 j (by omega), snd_Tm 1 _ _ _ _ _ 22 j (by omega)]
    by_cases z : j = A.N (2 + 1)
    · rw [if_pos z, if_pos z, if_pos z]
      refine ⟨q, hq, rfl, ?_⟩
      rw [snd_rlen]
      exact hr
    · rw [if_neg z, if_neg z, if_neg z]
      obtain ⟨q', h1, h2, h3⟩ := hM.2 j (by have : j < A.N 3 + 1 := hj; have : j ≠ A.N 3 := z; omega)
      refine ⟨q', h1, h2, ?_⟩
      rw [snd_rlen]
      exact h3
theorem SM_up (hM : SM A) {q : Nat} (hq : q < A.N 0) {b c v f : Int32} (hr : b = 0 ∨ (b = 1 ∧ ∃ p, p ≤ 3 ∧ c = nI p)) : SM (A.snd 0 (nI q) b c v f) := by
  refine ⟨fun j hj => ?_, fun j hj => ?_⟩
  · rw [snd_N, if_pos rfl] at hj
    rw [snd_N0, snd_Tm 0 _ _ _ _ _ 10 j (by omega), snd_Tm 0 _ _ _ _ _ 11 j (by omega), snd_Tm 0 _ _ _ _ _ 12 j (by omega)]
    by_cases z : j = A.N (2 + 0)
    · rw [if_pos z, if_pos z, if_pos z]
      exact ⟨q, hq, rfl, hr⟩
    · rw [if_neg z, if_neg z, if_neg z]
      exact hM.1 j (by have : j < A.N 2 + 1 := hj; have : j ≠ A.N 2 := z; omega)
  · rw [snd_N, if_neg (by omega)] at hj
    rw [snd_N0, snd0_down _ _ _ _ _ _ 20 (by omega), snd0_down _ _ _ _ _ _ 21 (by omega), snd0_down _ _ _ _ _ _ 22 (by omega)]
    obtain ⟨q', h1, h2, h3⟩ := hM.2 j hj
    refine ⟨q', h1, h2, ?_⟩
    rw [snd_rlen]
    exact h3
/-- the PIECE k of q lies on DOWN before j -/
def pcB (A : G1) (q k j : Nat) : Prop := ∃ j', j' < j ∧ A.T 20 j' = nI q ∧ A.T 21 j' = 3 ∧ A.T 22 j' = nI k
theorem pcB_snd {a b c v f : Int32} {q k j : Nat} (hj : j ≤ A.N 3) (h : pcB A q k j) : pcB (A.snd 1 a b c v f) q k j := by
  obtain ⟨j', h1, h2, h3, h4⟩ := h
  have z : ¬ j' = A.N (2 + 1) := by have : j' < A.N 3 := by omega
                                    show ¬ j' = A.N 3
                                    omega
  exact ⟨j', h1, by rw [snd_Tm 1 _ _ _ _ _ 20 j' (by omega), if_neg z]; exact h2, by rw [snd_Tm 1 _ _ _ _ _ 21 j' (by omega), if_neg z]; exact h3, by rw [snd_Tm 1 _ _ _ _ _ 22 j' (by omega), if_neg z]; exact h4⟩
theorem SR_dn (hR : SR A B) (hU : B'.T 9 = B.T 9) {q : Nat} (hq : q < 120) (hn : A.N 0 ≤ 120) {b c v f : Int32} (hr : b = 4 → A.T 3 q = 1 → ∀ k, k < cN A q → A.R q k = B.T 9 (q * 3 + k) ∨ pcB A q k (A.N 3)) : SR (A.snd 1 (nI q) b c v f) B' := by
  refine ⟨fun i hi => ?_, fun j q' hj => ?_⟩
  · rw [snd_N0] at hi
    rw [snd_T _ _ _ _ _ _ _ 7 (by omega), snd_T _ _ _ _ _ _ _ 3 (by omega), snd_cN, snd_R, hU]
    exact hR.1 i hi
  · rw [snd_N, if_pos rfl] at hj
    have hj' : j < A.N 3 + 1 := hj
    rw [snd_N0, snd_T _ _ _ _ _ _ _ 3 (by omega), snd_cN, snd_R, hU, snd_Tm 1 _ _ _ _ _ 20 j (by omega), snd_Tm 1 _ _ _ _ _ 21 j (by omega)]
    show (if j = A.N 3 then _ else _) = _ → (if j = A.N 3 then _ else _) = _ → _
    intro s21 s20 hq' s3 k hk
    show A.R q' k = B.T 9 (q' * 3 + k) ∨ pcB (A.snd 1 (nI q) b c v f) q' k j
    by_cases z : j = A.N 3
    · rw [if_pos z] at s20 s21
      have e : q = q' := (nI_eq (by omega) (by omega)).mp s20
      subst e
      rcases hr s21 s3 k hk with y | y
      · exact Or.inl y
      · right
        rw [z]
        exact pcB_snd (Nat.le_refl _) y
    · rw [if_neg z] at s20 s21
      rcases hR.2 j q' (by omega) s21 s20 hq' s3 k hk with y | y
      · exact Or.inl y
      · exact Or.inr (pcB_snd (by omega) y)
def SWd (t W d e : Nat) (A : G1) : Prop := ∃ S sd : Nat, A.I 3 = nI sd ∧ A.I 5 = nI (S + W) ∧ A.I 4 = nI (S + cnt (A.T 21) 4 (A.N 3)) ∧ A.N 2 + cnt (A.T 21) 2 (A.N 3) + cnt (A.T 21) 4 (A.N 3) + S + d = sd ∧ sd ≤ S + W ∧ sd ≤ t ∧ (∀ k, k ≤ A.N 3 → cnt (A.T 21) 3 (A.N 3) + 3 * cnt (A.T 21) 4 k ≤ 3 * cnt (A.T 21) 4 (A.N 3) + cnt (A.T 21) 3 k + e) ∧ ∀ j, j < A.N 3 → A.T 24 j = nI (S + W + cnt (A.T 21) 4 (j + 1))
theorem SWd_of {t' : Nat} (ht : t ≤ t') (hI : ∀ k, 3 ≤ k → k ≤ 5 → A'.I k = A.I k) (h2 : A'.N 2 = A.N 2) (h3 : A'.N 3 = A.N 3) (h21 : A'.T 21 = A.T 21) (h24 : A'.T 24 = A.T 24) (h : SWd t W d e A) : SWd t' W d e A' := by
  unfold SWd
  rw [hI 3 (by omega) (by omega), hI 4 (by omega) (by omega), hI 5 (by omega) (by omega), h2, h3, h21, h24]
  obtain ⟨S, sd, a, b, c, d, e, f, g⟩ := h
  exact ⟨S, sd, a, b, c, d, e, by omega, g⟩
theorem SWd_fin (h : SWd t W 0 0 A) : SW t W A := by
  obtain ⟨S, sd, a, b, c, d, e, f, g, k⟩ := h
  exact ⟨S, sd, a, b, c, by omega, e, f, fun j hj => by have := g j hj; omega, k⟩
theorem snd_cnt (a b c v f x : Int32) {n : Nat} (hn : n ≤ A.N 3) : cnt ((A.snd 1 a b c v f).T 21) x n = cnt (A.T 21) x n :=
  cnt_congr (fun j hj => by
    rw [snd_Tm 1 _ _ _ _ _ 21 j (by omega)]
    show (if j = A.N 3 then _ else _) = _
    rw [if_neg (by omega)])
theorem snd_cnt1 (a b c v f x : Int32) : cnt ((A.snd 1 a b c v f).T 21) x (A.N 3 + 1) = cnt (A.T 21) x (A.N 3) + (if b = x then 1 else 0) := by
  rw [cnt, snd_cnt a b c v f x (Nat.le_refl _), snd_Tm 1 _ _ _ _ _ 21 (A.N 3) (by omega)]
  show _ + (if (if A.N 3 = A.N 3 then b else _) = x then 1 else 0) = _
  rw [if_pos (rfl : A.N 3 = A.N 3)]
theorem SWd_piece (h : SWd t W d e A) (h0 : A.I 0 = nI W) (a c v : Int32) : SWd t W d (e + 1) (A.snd 1 a 3 c v (A.I 4 + A.I 0)) := by
  obtain ⟨S, sd, i3, i5, i4, sum, le, lt, suf, car⟩ := h
  have n3 : (A.snd 1 a 3 c v (A.I 4 + A.I 0)).N 3 = A.N 3 + 1 := by rw [snd_N]; rfl
  have n2 : (A.snd 1 a 3 c v (A.I 4 + A.I 0)).N 2 = A.N 2 := by rw [snd_N]; rfl
  have c2 : cnt ((A.snd 1 a 3 c v (A.I 4 + A.I 0)).T 21) 2 (A.N 3 + 1) = cnt (A.T 21) 2 (A.N 3) + 0 := (snd_cnt1 (A := A) a 3 c v (A.I 4 + A.I 0) 2).trans (by rw [if_neg (by decide)])
  have c3 : cnt ((A.snd 1 a 3 c v (A.I 4 + A.I 0)).T 21) 3 (A.N 3 + 1) = cnt (A.T 21) 3 (A.N 3) + 1 := (snd_cnt1 (A := A) a 3 c v (A.I 4 + A.I 0) 3).trans (by rw [if_pos rfl])
  have c4 : cnt ((A.snd 1 a 3 c v (A.I 4 + A.I 0)).T 21) 4 (A.N 3 + 1) = cnt (A.T 21) 4 (A.N 3) + 0 := (snd_cnt1 (A := A) a 3 c v (A.I 4 + A.I 0) 4).trans (by rw [if_neg (by decide)])
  have cs : ∀ (x : Int32) (n : Nat), n ≤ A.N 3 → cnt ((A.snd 1 a 3 c v (A.I 4 + A.I 0)).T 21) x n = cnt (A.T 21) x n := fun x n hn => snd_cnt (A := A) a 3 c v (A.I 4 + A.I 0) x hn
  refine ⟨S, sd, i3, i5, ?_, ?_, le, lt, fun k hk => ?_, fun j hj => ?_⟩
  · rw [n3, c4]
    show A.I 4 = _
    rw [i4]
    rfl
  · rw [n3, n2, c2, c4]
    omega
  · rw [n3] at hk ⊢
    rw [c3, c4]
    by_cases z : k ≤ A.N 3
    · rw [cs 4 k z, cs 3 k z]
      have := suf k z
      omega
    · have z2 : k = A.N 3 + 1 := by omega
      rw [z2, c3, c4]
      omega
  · rw [n3] at hj
    rw [snd_Tm 1 _ _ _ _ _ 24 j (by omega)]
    show (if j = A.N 3 then A.I 4 + A.I 0 else A.T 24 j) = _
    by_cases z : j = A.N 3
    · rw [if_pos z, z, c4, i4, h0, nI_add]
      congr 1
      omega
    · rw [if_neg z, cs 4 (j + 1) (by omega)]
      exact car j (by omega)
theorem SWd_ask (h : SWd t W 1 e A) (h0 : A.I 0 = nI W) (a c v : Int32) : SWd t W 0 e (A.snd 1 a 2 c v (A.I 4 + A.I 0)) := by
  obtain ⟨S, sd, i3, i5, i4, sum, le, lt, suf, car⟩ := h
  have n3 : (A.snd 1 a 2 c v (A.I 4 + A.I 0)).N 3 = A.N 3 + 1 := by rw [snd_N]; rfl
  have n2 : (A.snd 1 a 2 c v (A.I 4 + A.I 0)).N 2 = A.N 2 := by rw [snd_N]; rfl
  have c2 : cnt ((A.snd 1 a 2 c v (A.I 4 + A.I 0)).T 21) 2 (A.N 3 + 1) = cnt (A.T 21) 2 (A.N 3) + 1 := (snd_cnt1 (A := A) a 2 c v (A.I 4 + A.I 0) 2).trans (by rw [if_pos rfl])
  have c3 : cnt ((A.snd 1 a 2 c v (A.I 4 + A.I 0)).T 21) 3 (A.N 3 + 1) = cnt (A.T 21) 3 (A.N 3) + 0 := (snd_cnt1 (A := A) a 2 c v (A.I 4 + A.I 0) 3).trans (by rw [if_neg (by decide)])
  have c4 : cnt ((A.snd 1 a 2 c v (A.I 4 + A.I 0)).T 21) 4 (A.N 3 + 1) = cnt (A.T 21) 4 (A.N 3) + 0 := (snd_cnt1 (A := A) a 2 c v (A.I 4 + A.I 0) 4).trans (by rw [if_neg (by decide)])
  have cs : ∀ (x : Int32) (n : Nat), n ≤ A.N 3 → cnt ((A.snd 1 a 2 c v (A.I 4 + A.I 0)).T 21) x n = cnt (A.T 21) x n := fun x n hn => snd_cnt (A := A) a 2 c v (A.I 4 + A.I 0) x hn
  refine ⟨S, sd, i3, i5, ?_, ?_, le, lt, fun k hk => ?_, fun j hj => ?_⟩
  · rw [n3, c4]
    show A.I 4 = _
    rw [i4]
    rfl
  · rw [n3, n2, c2, c4]
    omega
  · rw [n3] at hk ⊢
    rw [c3, c4]
    by_cases z : k ≤ A.N 3
    · rw [cs 4 k z, cs 3 k z]
      have := suf k z
      omega
    · have z2 : k = A.N 3 + 1 := by omega
      rw [z2, c3, c4]
      omega
  · rw [n3] at hj
    rw [snd_Tm 1 _ _ _ _ _ 24 j (by omega)]
    show (if j = A.N 3 then A.I 4 + A.I 0 else A.T 24 j) = _
    by_cases z : j = A.N 3
    · rw [if_pos z, z, c4, i4, h0, nI_add]
      congr 1
      omega
    · rw [if_neg z, cs 4 (j + 1) (by omega)]
      exact car j (by omega)
theorem SWd_done (h : SWd t W 1 e A) (h0 : A.I 0 = nI W) (he : e ≤ 3) (a c v : Int32) : SWd t W 0 0 ((A.sI 4 (A.I 4 + 1)).snd 1 a 4 c v (A.I 4 + 1 + A.I 0)) := by
  obtain ⟨S, sd, i3, i5, i4, sum, le, lt, suf, car⟩ := h
  have n3 : ((A.sI 4 (A.I 4 + 1)).snd 1 a 4 c v (A.I 4 + 1 + A.I 0)).N 3 = A.N 3 + 1 := by rw [snd_N]; rfl
  have n2 : ((A.sI 4 (A.I 4 + 1)).snd 1 a 4 c v (A.I 4 + 1 + A.I 0)).N 2 = A.N 2 := by rw [snd_N]; rfl
  have c2 : cnt (((A.sI 4 (A.I 4 + 1)).snd 1 a 4 c v (A.I 4 + 1 + A.I 0)).T 21) 2 (A.N 3 + 1) = cnt (A.T 21) 2 (A.N 3) + 0 := (snd_cnt1 (A := (A.sI 4 (A.I 4 + 1))) a 4 c v (A.I 4 + 1 + A.I 0) 2).trans (by rw [if_neg (by decide)]; rfl)
  have c3 : cnt (((A.sI 4 (A.I 4 + 1)).snd 1 a 4 c v (A.I 4 + 1 + A.I 0)).T 21) 3 (A.N 3 + 1) = cnt (A.T 21) 3 (A.N 3) + 0 := (snd_cnt1 (A := (A.sI 4 (A.I 4 + 1))) a 4 c v (A.I 4 + 1 + A.I 0) 3).trans (by rw [if_neg (by decide)]; rfl)
  have c4 : cnt (((A.sI 4 (A.I 4 + 1)).snd 1 a 4 c v (A.I 4 + 1 + A.I 0)).T 21) 4 (A.N 3 + 1) = cnt (A.T 21) 4 (A.N 3) + 1 := (snd_cnt1 (A := (A.sI 4 (A.I 4 + 1))) a 4 c v (A.I 4 + 1 + A.I 0) 4).trans (by rw [if_pos rfl]; rfl)
  have cs : ∀ (x : Int32) (n : Nat), n ≤ A.N 3 → cnt (((A.sI 4 (A.I 4 + 1)).snd 1 a 4 c v (A.I 4 + 1 + A.I 0)).T 21) x n = cnt (A.T 21) x n := fun x n hn => snd_cnt (A := (A.sI 4 (A.I 4 + 1))) a 4 c v (A.I 4 + 1 + A.I 0) x hn
  refine ⟨S, sd, i3, i5, ?_, ?_, le, lt, fun k hk => ?_, fun j hj => ?_⟩
  · rw [n3, c4]
    show A.I 4 + 1 = _
    rw [i4, nI_1]
    rfl
  · rw [n3, n2, c2, c4]
    omega
  · rw [n3] at hk ⊢
    rw [c3, c4]
    by_cases z : k ≤ A.N 3
    · rw [cs 4 k z, cs 3 k z]
      have := suf k z
      omega
    · have z2 : k = A.N 3 + 1 := by omega
      rw [z2, c3, c4]
      omega
  · rw [n3] at hj
    rw [snd_Tm 1 _ _ _ _ _ 24 j (by omega)]
    show (if j = A.N 3 then A.I 4 + 1 + A.I 0 else A.T 24 j) = _
    by_cases z : j = A.N 3
    · rw [if_pos z, z, c4, i4, h0, nI_1, nI_add]
      congr 1
      omega
    · rw [if_neg z, cs 4 (j + 1) (by omega)]
      exact car j (by omega)
/-- all but the window's counts -/
def Sm (t W : Nat) (A : G1) (B : G2) : Prop := ¬ A.I 1 = 0 ∧ SQ A B ∧ SL A B ∧ SC t A B ∧ SM A ∧ SR A B ∧ SS W A B
theorem Sm.sim (h : Sm t W A B) (hw : SWd t W 0 0 A) : Sim t A B := ⟨W, h.2.1, h.2.2.1, h.2.2.2.1, h.2.2.2.2.1, fun _ => SWd_fin hw, h.2.2.2.2.2.1, h.2.2.2.2.2.2⟩
theorem Sm_store {t' : Nat} (h : Sm t W A B) (hN : ∀ k, k ≠ 1 → A'.N k = A.N k) (hI : A'.I = A.I) (hT : ∀ k, 3 ≤ k → A'.T k = A.T k) (hR : A'.R = A.R) (hJ : ∀ k, k ≠ 2 → B'.I k = B.I k) (hU : ∀ k, 4 ≤ k → B'.T k = B.T k) (hC : SC t' A' B') : Sm t' W A' B' := by
  obtain ⟨hs, hQ, hL, -, hM, hR2, hS⟩ := h
  exact ⟨by rw [hI]; exact hs, SQ_of (hN 0 (by omega)) (fun k h1 _ => hT k h1) (hJ 3 (by omega)) (fun k h1 _ => hU k h1) hQ, SL_of (hN 2 (by omega)) (hN 3 (by omega)) (fun k h1 _ => hT k (by omega)) (fun k h1 _ => hU k (by omega)) hL, hC, SM_of (hN 0 (by omega)) (hN 2 (by omega)) (hN 3 (by omega)) (fun k h1 _ => hT k (by omega)) (hT 3 (by omega)) (hT 5 (by omega)) hM, SR_of (hN 0 (by omega)) (hN 3 (by omega)) (hT 3 (by omega)) (hT 5 (by omega)) (hT 7 (by omega)) (fun k h1 _ => hT k (by omega)) hR (hU 9 (by omega)) hR2, SS_of (fun k _ => by rw [hI]) (hN 2 (by omega)) (hN 3 (by omega)) (fun k _ h2 _ => hJ k h2) hS⟩
theorem Sm_I4 (h : Sm t W A B) (x : Int32) : Sm t W (A.sI 4 x) (B.sI 6 x) := by
  obtain ⟨hs, hQ, hL, hC, hM, hR2, hS⟩ := h
  refine ⟨hs, hQ, hL, SC_of (A := A) (B := B) rfl rfl (fun _ _ => rfl) (fun k h1 h2 => va_up_ne _ _ (by omega)) (fun _ _ _ => rfl) hC, hM, hR2, ?_⟩
  exact ⟨hS.1, hS.2.1, hS.2.2.1, hS.2.2.2.1, hS.2.2.2.2.1, hS.2.2.2.2.2.1, fun z => absurd z hs, fun z => ⟨(hS.2.2.2.2.2.2.2 hs).1, rfl, (hS.2.2.2.2.2.2.2 hs).2.2⟩⟩
theorem Sm_snd (h : Sm t W A B) (h2 : A.N 2 ≤ 60) {q : Nat} (hq : q < A.N 0) (b c v f : Int32) (hr : (b = 2 ∧ ∃ p, p ≤ 3 ∧ c = nI p) ∨ (b = 3 ∧ ∃ k, c = nI k ∧ k < rlen A q) ∨ b = 4) (hsr : b = 4 → A.T 3 q = 1 → ∀ k, k < cN A q → A.R q k = B.T 9 (q * 3 + k) ∨ pcB A q k (A.N 3)) : Sm t W (A.snd 1 (nI q) b c v f) (B.pst 1 (A.N 3) (nI q) b c v f) := by
  obtain ⟨hs, hQ, hL, hC, hM, hR2, hS⟩ := h
  have hn := hQ.1
  refine ⟨hs, SQ_of (A := A) (B := B) (snd_N0 1 _ _ _ _ _) (fun k h1 h2 => snd_T _ _ _ _ _ _ _ k (by omega)) rfl (fun k h1 h2 => pst_low _ _ _ _ _ _ _ _ k (by omega)) hQ, SL_dn hL h2 _ _ _ _ _, SC_of (A := A) (B := B) (by rw [snd_N, if_neg (by omega)]) (by rw [snd_N, if_neg (by omega)]) (fun k h1 => snd_T _ _ _ _ _ _ _ k (by omega)) (fun _ _ _ => rfl) (fun k h1 h2 => pst_low _ _ _ _ _ _ _ _ k (by omega)) hC, SM_dn hM hq hr, SR_dn hR2 (pst_low _ _ _ _ _ _ _ _ 9 (by omega)) (by omega) hn hsr, ?_⟩
  exact ⟨hS.1, hS.2.1, hS.2.2.1, hS.2.2.2.1, hS.2.2.2.2.1, hS.2.2.2.2.2.1, fun z => absurd z hs, fun z => hS.2.2.2.2.2.2.2 hs⟩
theorem Sm.i4 (h : Sm t W A B) : A.I 4 = B.I 6 ∧ A.I 0 = B.I 0 := ⟨(h.2.2.2.2.2.2.2.2.2.2.2.2.2 h.1).2.1, h.2.2.2.2.2.2.2.2.1.trans h.2.2.2.2.2.2.2.2.2.1.symm⟩
theorem Sm_fin (h : Sm t W A B) (hw : SWd t W 1 e A) (he : e ≤ 3) (h2 : A.N 2 ≤ 60) {q : Nat} (hq : q < A.N 0) (hsr : A.T 3 q = 1 → ∀ k, k < cN A q → A.R q k = B.T 9 (q * 3 + k) ∨ pcB A q k (A.N 3)) : Sim t (A.fin (nI q)) (B.fin (A.N 3) (nI q)) := by
  have hi := h.i4
  have a := Sm_snd (Sm_I4 h (A.I 4 + 1)) h2 (q := q) hq 4 0 0 (A.I 4 + 1 + A.I 0) (Or.inr (Or.inr rfl)) (fun _ => hsr)
  have b := SWd_done hw h.2.2.2.2.2.2.2.2.1 he (nI q) 0 0
  have c := Sm.sim a b
  rw [show B.fin (A.N 3) (nI q) = (B.sI 6 (A.I 4 + 1)).pst 1 (A.N 3) (nI q) 4 0 0 (A.I 4 + 1 + A.I 0) by unfold G2.fin; rw [hi.1, hi.2]]
  exact c
/-- the pieces of a READ -/
theorem Sm_rdn (h : Sm t W A B) (hw : SWd t W d e A) (ht : t < 2 ^ 30) (h2 : A.N 2 ≤ 60) {q f : Nat} (hq : q < A.N 0) : ∀ k, k ≤ rlen A q → f + k ≤ 16 → Sm t W (A.rdn (nI q) f k) (B.rdN (nI q) f (A.N 3) k) ∧ SWd t W d (e + k) (A.rdn (nI q) f k) ∧ ∀ i, i < k → (A.rdn (nI q) f k).T 20 (A.N 3 + i) = nI q ∧ (A.rdn (nI q) f k).T 21 (A.N 3 + i) = 3 ∧ (A.rdn (nI q) f k).T 22 (A.N 3 + i) = nI i
  | 0, _, _ => ⟨h, hw, fun i hi => absurd hi (Nat.not_lt_zero i)⟩
  | k + 1, hk, hf => by
    obtain ⟨a, b, c⟩ := Sm_rdn (f := f) h hw ht h2 hq k (by omega) (by omega)
    have hi := h.i4
    have n3 : (A.rdn (nI q) f k).N 3 = A.N 3 + k := by rw [rdn_N, if_pos rfl]
    have n2 : (A.rdn (nI q) f k).N 2 = A.N 2 := by rw [rdn_N, if_neg (by omega)]
    have n0 : (A.rdn (nI q) f k).N 0 = A.N 0 := by rw [rdn_N, if_neg (by omega)]
    have ei : (A.rdn (nI q) f k).I = A.I := rdn_I _ _ _ _
    have a' := Sm_snd a (by rw [n2]; exact h2) (q := q) (by rw [n0]; exact hq) 3 (nI k) (A.pv (f + k)) (A.I 4 + A.I 0) (Or.inr (Or.inl ⟨rfl, k, rfl, by rw [rlen_of (rdn_T _ _ _ 3 (by omega) k) (rdn_T _ _ _ 5 (by omega) k)]; omega⟩)) (fun z => absurd z (by decide))
    have b' := SWd_piece b (by rw [ei]; exact h.2.2.2.2.2.2.2.2.1) (nI q) (nI k) (A.pv (f + k))
    rw [ei] at b'
    rw [n3] at a'
    refine ⟨?_, b', fun i hik => ?_⟩
    · show Sm t W ((A.rdn (nI q) f k).snd 1 (nI q) 3 (nI k) (A.pv (f + k)) (A.I 4 + A.I 0)) ((B.rdN (nI q) f (A.N 3) k).pst 1 (A.N 3 + k) (nI q) 3 (nI k) (B.vo (f + k)) (B.I 6 + B.I 0))
      rw [← hi.1, ← hi.2, ← h.2.2.2.1.present ht (f + k) (by omega)]
      exact a'
    · show ((A.rdn (nI q) f k).snd 1 (nI q) 3 (nI k) (A.pv (f + k)) (A.I 4 + A.I 0)).T 20 (A.N 3 + i) = nI q ∧ ((A.rdn (nI q) f k).snd 1 (nI q) 3 (nI k) (A.pv (f + k)) (A.I 4 + A.I 0)).T 21 (A.N 3 + i) = 3 ∧ ((A.rdn (nI q) f k).snd 1 (nI q) 3 (nI k) (A.pv (f + k)) (A.I 4 + A.I 0)).T 22 (A.N 3 + i) = nI i
      rw [snd_Tm 1 _ _ _ _ _ 20 _ (by omega), snd_Tm 1 _ _ _ _ _ 21 _ (by omega), snd_Tm 1 _ _ _ _ _ 22 _ (by omega)]
      rw [show (A.rdn (nI q) f k).N (2 + 1) = A.N 3 + k from n3]
      by_cases z : i = k
      · rw [if_pos (by omega), if_pos (by omega), if_pos (by omega), z]
        exact ⟨rfl, rfl, rfl⟩
      · rw [if_neg (by omega), if_neg (by omega), if_neg (by omega)]
        exact c i (by omega)
end MID
