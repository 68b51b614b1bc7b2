/-! the cache's moves on both sides -/
section CM
variable {t : Nat} {A A' : G1} {B B' : G2}
def SCr (t : Nat) (A : G1) (B : G2) : Prop := (∀ b, b < 16 → A.T 0 b = B.T 1 b) ∧ ∃ (bl s : Nat → Nat) (clk : Nat), clk ≤ t ∧ B.I 2 = nI clk ∧ Stq (A.N 1) clk bl s (B.T 3) ∧ ∀ j, j < A.N 1 → A.T 1 j = nI (bl j) ∧ B.T 2 (bl j) = A.T 2 j
theorem SC.raw (h : SC t A B) (ht : t < 2 ^ 30) : SCr t A B := ⟨h.2.2.2.2.1, h.stp ht⟩
theorem SCr.full (h : SCr t A B) (h1 : 1 ≤ A.N 4) (h2 : A.N 4 ≤ 6) (h3 : B.I 1 = nI (A.N 4)) (h4 : A.N 1 ≤ A.N 4) : SC t A B := by
  obtain ⟨d, bl, s, clk, a, b, c, e⟩ := h
  exact ⟨h1, h2, h3, h4, d, bl, s, clk, a, b, c.2.1, fun j hj => ⟨(c.2.2.1 j hj).1, (e j hj).1, (c.2.2.1 j hj).2, (e j hj).2⟩, c.2.2.2.1, c.2.2.2.2⟩
theorem plc_none {f : Nat → Int32} {b : Int32} {n : Nat} (h : ¬ plc f b n < n) : ∀ q, q < n → f q ≠ b := by
  intro q hq e4
  have key : ∀ n, q < n → plc f b n ≠ n := by
    intro n
    induction n with
    | zero => intro hh; omega
    | succ n ih =>
      intro hh e5
      unfold plc at e5
      by_cases c1 : plc f b n < n
      · rw [if_pos c1] at e5; omega
      · rw [if_neg c1] at e5
        by_cases c2 : f n = b
        · rw [if_pos c2] at e5; omega
        · have hqn : q < n := by
            by_cases c3 : q = n
            · subst c3; exact absurd e4 c2
            · omega
          exact ih hqn (Nat.le_antisymm (plc_le _ _ _) (Nat.le_of_not_lt c1))
  exact key _ hq (Nat.le_antisymm (plc_le _ _ _) (Nat.le_of_not_lt h))
theorem SCr_wb (h : SCr t A B) (h7 : A.N 1 ≤ 16) {r : Int32} (hf : B.flR r B') : SCr t A.wb B' ∧ ((A.N 1 = 0 ∧ r = -3) ∨ (0 < A.N 1 ∧ r = A.T 1 0)) := by
  obtain ⟨hd, bl, s, clk, h1, h2, hs, hq⟩ := h
  by_cases z : A.N 1 = 0
  · have e : A.wb = A := by unfold G1.wb; rw [if_pos z]
    rw [e]
    rcases hf with ⟨b, hb, hat, -, -⟩ | ⟨-, er, rfl⟩
    · have hat' : isAt (B.T 3) (nI 0) b := by rw [nI_0]; exact hat
      have := (hs.at h7 (by omega) hb).mp hat'
      omega
    · exact ⟨⟨hd, bl, s, clk, h1, h2, hs, hq⟩, Or.inl ⟨z, er⟩⟩
  · have z' : 0 < A.N 1 := by omega
    have hb0 := (hs.2.2.1 0 z').1
    rcases hf with ⟨b, hb, hat, er, rfl⟩ | ⟨hno, -, -⟩
    · have hat' : isAt (B.T 3) (nI 0) b := by rw [nI_0]; exact hat
      obtain ⟨-, e0⟩ := (hs.at h7 (by omega) hb).mp hat'
      have ne : ∀ j, j + 1 < A.N 1 → bl (j + 1) ≠ b := fun j hj e => by
        have := hs.inj (i := j + 1) (j := 0) hj z' (e.trans e0.symm)
        omega
      refine ⟨⟨fun c hc => ?_, fun j => bl (j + 1), fun c => if c = b then 0 else s c, clk, h1, h2, ⟨hs.1, fun c hc => ?_, fun j hj => ?_, fun j j' hjj hj => ?_, fun c hc hpos => ?_⟩, fun j hj => ?_⟩, Or.inr ⟨z', ?_⟩⟩
      · rw [wb_T0 A z', (hq 0 z').1, pk_cl (bl 0), e0]
        show upd (A.T 0) b (A.T 2 0) c = upd (B.T 1) b (B.T 2 b) c
        by_cases ec : c = b
        · subst ec
          rw [pk_us, pk_us, ← (hq 0 z').2, e0]
        · rw [pk_un ec, pk_un ec]; exact hd c hc
      · show upd (B.T 3) b 0 c = nI (if c = b then 0 else s c) ∧ (if c = b then 0 else s c) ≤ clk
        by_cases ec : c = b
        · subst ec
          rw [pk_us, if_pos rfl, nI_0]
          exact ⟨rfl, Nat.zero_le _⟩
        · rw [pk_un ec, if_neg ec]; exact hs.2.1 c hc
      · rw [wb_N1] at hj
        show bl (j + 1) < 16 ∧ 0 < (if bl (j + 1) = b then 0 else s (bl (j + 1)))
        rw [if_neg (ne j (by omega))]
        exact hs.2.2.1 (j + 1) (by omega)
      · rw [wb_N1] at hj
        show (if bl (j + 1) = b then 0 else s (bl (j + 1))) < (if bl (j' + 1) = b then 0 else s (bl (j' + 1)))
        rw [if_neg (ne j (by omega)), if_neg (ne j' (by omega))]
        exact hs.2.2.2.1 (j + 1) (j' + 1) (by omega) (by omega)
      · have hpos' : 0 < (if c = b then 0 else s c) := hpos
        by_cases ec : c = b
        · rw [if_pos ec] at hpos'; omega
        · rw [if_neg ec] at hpos'
          obtain ⟨i, hi, ei⟩ := hs.2.2.2.2 c hc hpos'
          have i0 : i ≠ 0 := fun y => by subst y; exact ec (ei.symm.trans e0)
          refine ⟨i - 1, by rw [wb_N1]; omega, ?_⟩
          show bl (i - 1 + 1) = c
          rw [Nat.sub_add_cancel (by omega)]
          exact ei
      · rw [wb_N1] at hj
        rw [wb_T1 A z', wb_T2 A z']
        show shf (A.T 1) (A.N 1 - 1) j = nI (bl (j + 1)) ∧ B.T 2 (bl (j + 1)) = shf (A.T 2) (A.N 1 - 1) j
        simp only [shf, if_pos hj]
        exact hq (j + 1) (by omega)
      · rw [er, (hq 0 z').1, e0]
    · exact absurd ((hs.at h7 (p := 0) (by omega) hb0).mpr ⟨z', rfl⟩) (by rw [nI_0]; exact hno _ hb0)
theorem SC_pt (h : SC t A B) (ht : t + 1 < 2 ^ 30) {b : Nat} (hb : b < 16) {v : Int32} (hp : B.ptR b v B') : SC (t + 1) (A.pt (nI b) v) B' := by
  have hsame := ptR_same hp
  have h1 := h.1
  have h2 := h.2.1
  have h3 := h.2.2.1
  have h4 := h.2.2.2.1
  have hcap := (pt_cOK b hb v h.cOK h4).2
  refine SCr.full ?_ (by rw [pt_N _ _ _ 4 (by omega)]; exact h1) (by rw [pt_N _ _ _ 4 (by omega)]; exact h2) (by rw [pt_N _ _ _ 4 (by omega), hsame.1 1 (by omega)]; exact h3) hcap
  obtain ⟨hd, bl, s, clk, g1, g2, hs, hq⟩ := h.raw (by omega)
  have hclk := hs.1
  unfold G1.pt
  by_cases z : plc (A.T 1) (nI b) (A.N 1) < A.N 1
  · rw [if_pos z]
    have e := plc_at z
    generalize plc (A.T 1) (nI b) (A.N 1) = p at z e
    have e3 : bl p = b := (nI_eq (by have := (hs.2.2.1 p z).1; omega) (by omega)).mp ((hq p z).1.symm.trans e)
    have hpos : 0 < B.T 3 b := (hs.pos hb).mpr (by rw [← e3]; exact (hs.2.2.1 p z).2)
    rcases hp with ⟨-, rfl⟩ | ⟨hn, -⟩
    · refine ⟨hd, bl, s, clk, by omega, g2, hs, fun j hj => ⟨(hq j hj).1, ?_⟩⟩
      show upd (B.T 2) b v (bl j) = upd (A.T 2) p v j
      by_cases c : j = p
      · subst c; rw [e3, pk_us, pk_us]
      · rw [pk_un (fun y => c (hs.inj hj z (y.trans e3.symm))), pk_un c]; exact (hq j hj).2
    · exact absurd hpos hn
  · rw [if_neg z]
    have hno := plc_none z
    have s0 : s b = 0 := Nat.eq_zero_of_not_pos (fun y => by
      obtain ⟨j, hj, e⟩ := hs.2.2.2.2 b hb y
      exact hno j hj (by rw [(hq j hj).1, e]))
    have hn0 : ¬ 0 < B.T 3 b := fun y => by have := (hs.pos hb).mp y; omega
    have hne : ∀ j, j < A.N 1 → bl j ≠ b := fun j hj e => hno j hj (by rw [(hq j hj).1, e])
    rcases hp with ⟨y, -⟩ | ⟨-, hp⟩
    · exact absurd y hn0
    have key : SCr (t + 1) (((A.sT 1 (upd (A.T 1) (A.N 1) (nI b))).sT 2 (upd (A.T 2) (A.N 1) v)).sN 1 (A.N 1 + 1)) (B.pt2 b v) := by
      refine ⟨hd, fun j => if j = A.N 1 then b else bl j, fun c => if c = b then clk + 1 else s c, clk + 1, by omega, ?_, ⟨by omega, fun c hc => ?_, fun j hj => ?_, fun j j' hjj hj => ?_, fun c hc hpos => ?_⟩, fun j hj => ?_⟩
      · show B.I 2 + 1 = _
        rw [g2, nI_1]
      · show upd (B.T 3) b (B.I 2 + 1) c = nI (if c = b then clk + 1 else s c) ∧ (if c = b then clk + 1 else s c) ≤ clk + 1
        by_cases e : c = b
        · subst e
          rw [pk_us, if_pos rfl, g2, nI_1]
          exact ⟨rfl, Nat.le_refl _⟩
        · rw [pk_un e, if_neg e]
          exact ⟨(hs.2.1 c hc).1, by have := (hs.2.1 c hc).2; omega⟩
      · have hj' : j < A.N 1 + 1 := hj
        show (if j = A.N 1 then b else bl j) < 16 ∧ 0 < (if (if j = A.N 1 then b else bl j) = b then clk + 1 else s (if j = A.N 1 then b else bl j))
        by_cases e : j = A.N 1
        · rw [if_pos e, if_pos rfl]; exact ⟨hb, by omega⟩
        · rw [if_neg e, if_neg (hne j (by omega))]; exact hs.2.2.1 j (by omega)
      · have hj' : j' < A.N 1 + 1 := hj
        show (if (if j = A.N 1 then b else bl j) = b then clk + 1 else s (if j = A.N 1 then b else bl j)) < (if (if j' = A.N 1 then b else bl j') = b then clk + 1 else s (if j' = A.N 1 then b else bl j'))
        rw [if_neg (show ¬ j = A.N 1 by omega), if_neg (hne j (by omega))]
        by_cases e : j' = A.N 1
        · rw [if_pos e, if_pos rfl]
          have := (hs.2.1 _ (hs.2.2.1 j (by omega)).1).2
          omega
        · rw [if_neg e, if_neg (hne j' (by omega))]; exact hs.2.2.2.1 j j' hjj (by omega)
      · have hpos' : 0 < (if c = b then clk + 1 else s c) := hpos
        by_cases e : c = b
        · exact ⟨A.N 1, Nat.lt_succ_self _, by show (if A.N 1 = A.N 1 then b else bl (A.N 1)) = c; rw [if_pos rfl, e]⟩
        · rw [if_neg e] at hpos'
          obtain ⟨j, hj, ej⟩ := hs.2.2.2.2 c hc hpos'
          exact ⟨j, Nat.lt_succ_of_lt hj, by show (if j = A.N 1 then b else bl j) = c; rw [if_neg (by omega)]; exact ej⟩
      · have hj' : j < A.N 1 + 1 := hj
        show upd (A.T 1) (A.N 1) (nI b) j = nI (if j = A.N 1 then b else bl j) ∧ upd (B.T 2) b v (if j = A.N 1 then b else bl j) = upd (A.T 2) (A.N 1) v j
        by_cases e : j = A.N 1
        · subst e
          rw [if_pos rfl, pk_us, pk_us, pk_us]
          exact ⟨rfl, rfl⟩
        · rw [if_neg e, pk_un e, pk_un (hne j (by omega)), pk_un e]; exact hq j (by omega)
    have hsz : cpos ((B.pt2 b v).T 3) 16 = A.N 1 + 1 := by
      obtain ⟨-, bl', s', clk', -, -, hs', -⟩ := key
      exact hs'.size
    rw [hsz, h3] at hp
    rcases hp with ⟨c1, rfl⟩ | ⟨c1, r, hf⟩
    · rw [if_pos ((nI_leI (by omega) (by omega)).mp c1)]; exact key
    · rw [if_neg (fun y => c1 ((nI_leI (by omega) (by omega)).mpr y))]
      exact (SCr_wb key (by show A.N 1 + 1 ≤ 16; omega) hf).1
theorem SC_ptn (h : SC t A B) {f : Nat} {v : Int32} : ∀ {c : Nat} {B' : G2}, t + c < 2 ^ 30 → f + c ≤ 16 → B.ptN f v c B' → SC (t + c) (A.ptn f v c) B'
  | 0, _, _, _, e => by subst e; exact h
  | c + 1, _, ht, hf, ⟨B2, h1, h2⟩ => SC_pt (SC_ptn h (by omega) (by omega) h1) (by omega) (by omega) h2
theorem SC_wb (h : SC t A B) (ht : t < 2 ^ 30) {r : Int32} (hf : B.flR r B') : SC t A.wb B' ∧ ((A.N 1 = 0 ∧ r = -3) ∨ (0 < A.N 1 ∧ r = A.T 1 0)) := by
  have h2 := h.2.1
  have h4 := h.2.2.2.1
  have a := SCr_wb (h.raw ht) (by omega) hf
  have e := flR_same hf
  exact ⟨a.1.full (by rw [wb_N _ _ (by omega)]; exact h.1) (by rw [wb_N _ _ (by omega)]; exact h.2.1) (by rw [wb_N _ _ (by omega), e.1]; exact h.2.2.1) (by rw [wb_N _ 4 (by omega), wb_N1]; omega), a.2⟩
theorem SC_wbn (h : SC t A B) (ht : t < 2 ^ 30) : ∀ {k : Nat} {B' : G2}, B.flN k B' → SC t (A.wbn k) B'
  | 0, _, e => by subst e; exact h
  | k + 1, _, ⟨B2, r, h1, h2⟩ => (SC_wb (SC_wbn h ht h1) ht h2).1
theorem wbn_more : ∀ k, A.wbn (A.N 1 + k) = A.wbn (A.N 1)
  | 0 => rfl
  | k + 1 => by
    have e : (A.wbn (A.N 1 + k)).N 1 = 0 := by rw [wbn_N1]; omega
    show (A.wbn (A.N 1 + k)).wb = _
    unfold G1.wb
    rw [if_pos e, wbn_more k]
theorem wbn_all (hN : A.N 1 ≤ 16) : A.wbn 16 = A.wbn (A.N 1) := by
  have := wbn_more (A := A) (16 - A.N 1)
  rw [show A.N 1 + (16 - A.N 1) = 16 by omega] at this
  exact this
end CM
