/-! The class's state A and the reference's state B after at most t calls. -/
def SQ (A : G1) (B : G2) : Prop := A.N 0 ≤ 120 ∧ B.I 3 = nI (A.N 0) ∧ ∀ i, i < A.N 0 → A.T 3 i = B.T 4 i ∧ A.T 4 i = B.T 5 i ∧ A.T 5 i = B.T 6 i ∧ A.T 6 i = B.T 7 i ∧ A.T 7 i = B.T 8 i ∧ rOK A i
def SL (A : G1) (B : G2) : Prop := B.T 16 0 = nI (A.N 2) ∧ B.T 16 1 = nI (A.N 3) ∧ (∀ t j, 10 ≤ t → t ≤ 15 → j < A.N 2 → A.T t j = B.T t j) ∧ (∀ t j, 10 ≤ t → t ≤ 15 → j < A.N 3 → A.T (t + 10) j = B.T t (64 + j)) ∧ ∀ j, B.T 15 j = 0 ∨ B.T 15 j = 1
def SC (t : Nat) (A : G1) (B : G2) : Prop := 1 ≤ A.N 4 ∧ A.N 4 ≤ 6 ∧ B.I 1 = nI (A.N 4) ∧ A.N 1 ≤ A.N 4 ∧ (∀ b, b < 16 → A.T 0 b = B.T 1 b) ∧ ∃ (bl s : Nat → Nat) (clk : Nat), clk ≤ t ∧ B.I 2 = nI clk ∧ (∀ b, b < 16 → B.T 3 b = nI (s b) ∧ s b ≤ clk) ∧ (∀ j, j < A.N 1 → bl j < 16 ∧ A.T 1 j = nI (bl j) ∧ 0 < s (bl j) ∧ B.T 2 (bl j) = A.T 2 j) ∧ (∀ j j', j < j' → j' < A.N 1 → s (bl j) < s (bl j')) ∧ (∀ b, b < 16 → 0 < s b → ∃ j, j < A.N 1 ∧ bl j = b)
def SM (A : G1) : Prop := (∀ j, j < A.N 2 → ∃ q, q < A.N 0 ∧ A.T 10 j = nI q ∧ (A.T 11 j = 0 ∨ (A.T 11 j = 1 ∧ ∃ p, p ≤ 3 ∧ A.T 12 j = nI p))) ∧ (∀ j, j < A.N 3 → ∃ q, q < A.N 0 ∧ A.T 20 j = nI q ∧ ((A.T 21 j = 2 ∧ ∃ p, p ≤ 3 ∧ A.T 22 j = nI p) ∨ (A.T 21 j = 3 ∧ ∃ k, A.T 22 j = nI k ∧ k < rlen A q) ∨ A.T 21 j = 4))
def SW (t W : Nat) (A : G1) : Prop := ∃ S sd : Nat, A.I 3 = nI sd ∧ A.I 5 = nI (S + W) ∧ A.I 4 = nI (S + cnt (A.T 21) 4 (A.N 3)) ∧ A.N 2 + cnt (A.T 21) 2 (A.N 3) + cnt (A.T 21) 4 (A.N 3) + S = sd ∧ sd ≤ S + W ∧ sd ≤ t ∧ (∀ k, k ≤ A.N 3 → cnt (A.T 21) 3 (A.N 3) + 3 * cnt (A.T 21) 4 k ≤ 3 * cnt (A.T 21) 4 (A.N 3) + cnt (A.T 21) 3 k) ∧ ∀ j, j < A.N 3 → A.T 24 j = nI (S + W + cnt (A.T 21) 4 (j + 1))
def SR (A : G1) (B : G2) : Prop := (∀ i, i < A.N 0 → A.T 7 i = 2 → A.T 3 i = 1 → ∀ k, k < cN A i → A.R i k = B.T 9 (i * 3 + k)) ∧ ∀ j q, j < A.N 3 → A.T 21 j = 4 → A.T 20 j = nI q → q < A.N 0 → A.T 3 q = 1 → ∀ k, k < cN A q → A.R q k = B.T 9 (q * 3 + k) ∨ ∃ j', j' < j ∧ A.T 20 j' = nI q ∧ A.T 21 j' = 3 ∧ A.T 22 j' = nI k
def SS (W : Nat) (A : G1) (B : G2) : Prop := 1 ≤ W ∧ W ≤ 4 ∧ A.I 0 = nI W ∧ B.I 0 = nI W ∧ A.I 1 = B.I 4 ∧ A.I 2 = B.I 8 ∧ (A.I 1 = 0 → A.I 3 = 0 ∧ A.I 4 = 0 ∧ A.I 5 = 0 ∧ A.N 2 = 0 ∧ A.N 3 = 0) ∧ (¬ A.I 1 = 0 → A.I 3 = B.I 5 ∧ A.I 4 = B.I 6 ∧ A.I 5 = B.I 7)
def Sim (t : Nat) (A : G1) (B : G2) : Prop := ∃ W, SQ A B ∧ SL A B ∧ SC t A B ∧ SM A ∧ (¬ A.I 1 = 0 → SW t W A) ∧ SR A B ∧ SS W A B
section SIMF
variable {t W : Nat} {A A' : G1} {B B' : G2}
theorem rOK_of (h3 : ∀ k, 3 ≤ k → k ≤ 5 → A'.T k = A.T k) {q : Nat} (h : rOK A q) : rOK A' q := by
  obtain ⟨f, c, h1, h2, h4⟩ := h
  exact ⟨f, c, by rw [h3 4 (by omega) (by omega)]; exact h1, by rw [h3 5 (by omega) (by omega)]; exact h2, h4⟩
theorem SQ_of (h0 : A'.N 0 = A.N 0) (hT : ∀ k, 3 ≤ k → k ≤ 7 → A'.T k = A.T k) (hI : B'.I 3 = B.I 3) (hU : ∀ k, 4 ≤ k → k ≤ 8 → B'.T k = B.T k) (h : SQ A B) : SQ A' B' := by
  refine ⟨by rw [h0]; exact h.1, by rw [hI, h0]; exact h.2.1, fun i hi => ?_⟩
  rw [h0] at hi
  obtain ⟨a, b, c, d, e, f⟩ := h.2.2 i hi
  rw [hT 3 (by omega) (by omega), hT 4 (by omega) (by omega), hT 5 (by omega) (by omega), hT 6 (by omega) (by omega), hT 7 (by omega) (by omega), hU 4 (by omega) (by omega), hU 5 (by omega) (by omega), hU 6 (by omega) (by omega), hU 7 (by omega) (by omega), hU 8 (by omega) (by omega)]
  exact ⟨a, b, c, d, e, rOK_of (fun k h1 h2 => hT k h1 (by omega)) f⟩
theorem SL_of (h2 : A'.N 2 = A.N 2) (h3 : A'.N 3 = A.N 3) (hT : ∀ k, 10 ≤ k → k ≤ 25 → A'.T k = A.T k) (hU : ∀ k, 10 ≤ k → k ≤ 16 → B'.T k = B.T k) (h : SL A B) : SL A' B' := by
  obtain ⟨a, b, c, d, e⟩ := h
  refine ⟨by rw [hU 16 (by omega) (by omega), h2]; exact a, by rw [hU 16 (by omega) (by omega), h3]; exact b, fun t j h4 h5 hj => ?_, fun t j h4 h5 hj => ?_, fun j => by rw [hU 15 (by omega) (by omega)]; exact e j⟩
  · rw [h2] at hj
    rw [hT t h4 (by omega), hU t h4 (by omega)]
    exact c t j h4 h5 hj
  · rw [h3] at hj
    rw [hT (t + 10) (by omega) (by omega), hU t h4 (by omega)]
    exact d t j h4 h5 hj
theorem SC_of (h1 : A'.N 1 = A.N 1) (h4 : A'.N 4 = A.N 4) (hT : ∀ k, k ≤ 2 → A'.T k = A.T k) (hI : ∀ k, 1 ≤ k → k ≤ 2 → B'.I k = B.I k) (hU : ∀ k, 1 ≤ k → k ≤ 3 → B'.T k = B.T k) (h : SC t A B) : SC t A' B' := by
  unfold SC
  rw [h1, h4, hT 0 (by omega), hT 1 (by omega), hT 2 (by omega), hI 1 (by omega) (by omega), hI 2 (by omega) (by omega), hU 1 (by omega) (by omega), hU 2 (by omega) (by omega), hU 3 (by omega) (by omega)]
  exact h
theorem SC_up {t' : Nat} (ht : t ≤ t') (h : SC t A B) : SC t' A B := by
  obtain ⟨a, b, c, d, e, bl, s, clk, f, g⟩ := h
  exact ⟨a, b, c, d, e, bl, s, clk, by omega, g⟩
theorem rlen_of (h3 : A'.T 3 = A.T 3) (h5 : A'.T 5 = A.T 5) (q : Nat) : rlen A' q = rlen A q := by
  unfold rlen
  rw [h3, h5]
theorem SM_of (h0 : A'.N 0 = A.N 0) (h2 : A'.N 2 = A.N 2) (h3 : A'.N 3 = A.N 3) (hT : ∀ k, 10 ≤ k → k ≤ 25 → A'.T k = A.T k) (t3 : A'.T 3 = A.T 3) (t5 : A'.T 5 = A.T 5) (h : SM A) : SM A' := by
  refine ⟨fun j hj => ?_, fun j hj => ?_⟩
  · rw [h2] at hj
    rw [h0, hT 10 (by omega) (by omega), hT 11 (by omega) (by omega), hT 12 (by omega) (by omega)]
    exact h.1 j hj
  · rw [h3] at hj
    obtain ⟨q, hq, e, r⟩ := h.2 j hj
    rw [h0, hT 20 (by omega) (by omega), hT 21 (by omega) (by omega), hT 22 (by omega) (by omega)]
    refine ⟨q, hq, e, ?_⟩
    rw [rlen_of t3 t5]
    exact r
theorem SW_of {t' : Nat} (ht : t ≤ t') (hI : ∀ k, 3 ≤ k → k ≤ 5 → A'.I k = A.I k) (h2 : A'.N 2 = A.N 2) (h3 : A'.N 3 = A.N 3) (h21 : A'.T 21 = A.T 21) (h24 : A'.T 24 = A.T 24) (h : SW t W A) : SW t' W A' := by
  unfold SW
  rw [hI 3 (by omega) (by omega), hI 4 (by omega) (by omega), hI 5 (by omega) (by omega), h2, h3, h21, h24]
  obtain ⟨S, sd, a, b, c, d, e, f, g⟩ := h
  exact ⟨S, sd, a, b, c, d, e, by omega, g⟩
theorem SR_of (h0 : A'.N 0 = A.N 0) (h3 : A'.N 3 = A.N 3) (t3 : A'.T 3 = A.T 3) (t5 : A'.T 5 = A.T 5) (t7 : A'.T 7 = A.T 7) (hT : ∀ k, 20 ≤ k → k ≤ 22 → A'.T k = A.T k) (hR : A'.R = A.R) (hU : B'.T 9 = B.T 9) (h : SR A B) : SR A' B' := by
  have hc : ∀ q, cN A' q = cN A q := fun q => by unfold cN; rw [t5]
  refine ⟨fun i hi => ?_, fun j q hj => ?_⟩
  · rw [h0] at hi
    rw [t7, t3, hc, hR, hU]
    exact h.1 i hi
  · rw [h3] at hj
    rw [hT 21 (by omega) (by omega), hT 20 (by omega) (by omega), hT 22 (by omega) (by omega), h0, t3, hc, hR, hU]
    exact h.2 j q hj
theorem SS_of (hI : ∀ k, k ≤ 5 → A'.I k = A.I k) (h2 : A'.N 2 = A.N 2) (h3 : A'.N 3 = A.N 3) (hJ : ∀ k, k ≠ 1 → k ≠ 2 → k ≠ 3 → B'.I k = B.I k) (h : SS W A B) : SS W A' B' := by
  unfold SS
  rw [hI 0 (by omega), hI 1 (by omega), hI 2 (by omega), hI 3 (by omega), hI 4 (by omega), hI 5 (by omega), h2, h3, hJ 0 (by omega) (by omega) (by omega), hJ 4 (by omega) (by omega) (by omega), hJ 5 (by omega) (by omega) (by omega), hJ 6 (by omega) (by omega) (by omega), hJ 7 (by omega) (by omega) (by omega), hJ 8 (by omega) (by omega) (by omega)]
  exact h
/-- what counting says of the lines' sizes -/
theorem cnt_three {f : Nat → Int32} : ∀ {n : Nat}, (∀ j, j < n → f j = 2 ∨ f j = 3 ∨ f j = 4) → cnt f 2 n + cnt f 3 n + cnt f 4 n = n
  | 0, _ => rfl
  | n + 1, h => by
    have ih := cnt_three (n := n) (fun j hj => h j (by omega))
    rw [cnt, cnt, cnt]
    rcases h n (by omega) with e | e | e
    · rw [e, if_pos rfl, if_neg (by decide), if_neg (by decide)]; omega
    · rw [e, if_neg (by decide), if_pos rfl, if_neg (by decide)]; omega
    · rw [e, if_neg (by decide), if_neg (by decide), if_pos rfl]; omega
theorem cnt_congr {f g : Nat → Int32} {b : Int32} : ∀ {n : Nat}, (∀ j, j < n → f j = g j) → cnt f b n = cnt g b n
  | 0, _ => rfl
  | n + 1, h => by rw [cnt, cnt, cnt_congr (n := n) (fun j hj => h j (by omega)), h n (by omega)]
theorem cnt_shift (f : Nat → Int32) (b : Int32) : ∀ n, cnt (fun j => f (j + 1)) b n + (if f 0 = b then 1 else 0) = cnt f b (n + 1)
  | 0 => by
    show 0 + _ = 0 + _
    rfl
  | n + 1 => by
    rw [cnt, cnt, ← cnt_shift f b n]
    omega
theorem SM_three (h : SM A) : ∀ j, j < A.N 3 → A.T 21 j = 2 ∨ A.T 21 j = 3 ∨ A.T 21 j = 4 := fun j hj => by
  obtain ⟨q, _, _, a | a | a⟩ := h.2 j hj
  · exact Or.inl a.1
  · exact Or.inr (Or.inl a.1)
  · exact Or.inr (Or.inr a)
/-- the lines' sizes under the window -/
theorem Sim.sizes (h : Sim t A B) : A.N 2 ≤ 4 ∧ A.N 3 ≤ 16 ∧ (0 < A.N 2 → A.N 3 ≤ 12) ∧ ∀ j, j < A.N 3 → A.T 21 j = 2 → A.N 2 < 4 := by
  obtain ⟨W, -, -, -, hM, hW, -, hS⟩ := h
  by_cases c : A.I 1 = 0
  · have := hS.2.2.2.2.2.2.1 c
    refine ⟨by omega, by omega, by omega, fun j hj => by omega⟩
  · obtain ⟨S, sd, -, -, -, e, f, -, g, -⟩ := hW c
    have h3 := cnt_three (SM_three hM)
    have h0 := g 0 (by omega)
    have z3 : cnt (A.T 21) 3 0 = 0 := rfl
    have z4 : cnt (A.T 21) 4 0 = 0 := rfl
    have hw := hS.2.1
    refine ⟨by omega, by omega, by omega, fun j hj e2 => ?_⟩
    have : cnt (A.T 21) 2 (A.N 3) ≠ 0 := fun z => cnt_zero z j hj e2
    omega
theorem SW.send_room (h : SW t W A) (hW : W ≤ 4) (hs : A.I 3 < A.I 5) (ht : t < 1000000) : A.N 2 < 4 := by
  obtain ⟨S, sd, a, b, c, d, e, f, -⟩ := h
  rw [a, b] at hs
  have : sd < S + W := (nI_ltI (by omega) (by omega)).mp hs
  omega
end SIMF
