/-! the start, and what both sides answer -/
theorem ile {x y : Int32} : x ≤ y ↔ x.toInt ≤ y.toInt := Int32.le_iff_toInt_le
theorem ilt {x y : Int32} : x < y ↔ x.toInt < y.toInt := Int32.lt_iff_toInt_lt
theorem clamp_clW (x lo hi : Int32) (h : lo < hi) : clW x lo hi = clampI x lo hi := by
  unfold clW clampI
  have h' := ilt.mp h
  by_cases c : x < hi
  · have c' := ilt.mp c
    rw [if_pos c]
    by_cases d : lo < x
    · have d' := ilt.mp d
      rw [if_pos d, if_pos (ile.mpr (by omega)), if_pos (ile.mpr (by omega))]
    · have d' := ile.mp (Int32.not_lt.mp d)
      rw [if_neg d]
      by_cases e : lo ≤ x
      · have e' := ile.mp e
        rw [if_pos e, if_pos (ile.mpr (by omega))]
        exact Int32.toInt_inj.mp (by omega)
      · rw [if_neg e]
  · have c' := ile.mp (Int32.not_lt.mp c)
    rw [if_neg c, if_pos h, if_pos (ile.mpr (by omega))]
    by_cases e : x ≤ hi
    · have e' := ile.mp e
      rw [if_pos e]
      exact Int32.toInt_inj.mp (by omega)
    · rw [if_neg e]
theorem clamp_w (y : Int32) : ∃ w : Nat, 1 ≤ w ∧ w ≤ 4 ∧ clampI y 1 4 = nI w := by
  unfold clampI
  rcases pk_ix y (n := 4) (by decide) with z | z | ⟨j, hj, rfl⟩
  · refine ⟨1, by omega, by omega, ?_⟩
    have z' := ilt.mp z
    have e0 : (0 : Int32).toInt = 0 := rfl
    have e1 : (1 : Int32).toInt = 1 := rfl
    have e4 : (4 : Int32).toInt = 4 := rfl
    rw [if_pos (ilt.mpr (by omega) : y < 4), if_neg (fun w : 1 < y => by have := ilt.mp w; omega)]
    rfl
  · refine ⟨4, by omega, by omega, ?_⟩
    have : ¬ y < 4 := Int32.not_lt.mpr z
    rw [if_neg this, if_pos (by decide)]
    rfl
  · rcases (show j = 0 ∨ j = 1 ∨ j = 2 ∨ j = 3 by omega) with rfl | rfl | rfl | rfl
    · exact ⟨1, by omega, by omega, by decide⟩
    · exact ⟨1, by omega, by omega, by decide⟩
    · exact ⟨2, by omega, by omega, by decide⟩
    · exact ⟨3, by omega, by omega, by decide⟩
theorem sim_start {W rm : Nat} (hW : 1 ≤ W ∧ W ≤ 4) (hr : 1 ≤ rm ∧ rm ≤ 6) : Sim 0 (G10 (nI W) rm).bg (G20 (nI W) (nI rm)) := by
  refine ⟨W, ⟨Nat.zero_le _, nI_0.symm, fun i hi => absurd hi (Nat.not_lt_zero i)⟩, ⟨nI_0.symm, nI_0.symm, fun s j _ _ hj => absurd hj (Nat.not_lt_zero j), fun s j _ _ hj => absurd hj (Nat.not_lt_zero j), fun j => Or.inl rfl⟩, ⟨hr.1, hr.2, rfl, Nat.zero_le _, fun _ _ => rfl, fun _ => 0, fun _ => 0, 0, Nat.zero_le _, nI_0.symm, fun b hb => ⟨nI_0.symm, Nat.le_refl _⟩, fun j hj => absurd hj (Nat.not_lt_zero j), fun j j' _ hj => absurd hj (Nat.not_lt_zero j'), fun b _ z => absurd z (Nat.lt_irrefl 0)⟩, ⟨fun j hj => absurd hj (Nat.not_lt_zero j), fun j hj => absurd hj (Nat.not_lt_zero j)⟩, fun _ => ⟨0, 0, nI_0.symm, ?_, nI_0.symm, rfl, Nat.zero_le _, Nat.zero_le _, fun k hk => ?_, fun j hj => absurd hj (Nat.not_lt_zero j)⟩, ⟨fun j hj => absurd hj (Nat.not_lt_zero j), fun j q hj => absurd hj (Nat.not_lt_zero j)⟩, ?_⟩
  · show nI W = nI (0 + W)
    rw [Nat.zero_add]
  · have : k = 0 := Nat.le_zero.mp hk
    subst this
    exact Nat.le_refl _
  · exact ⟨hW.1, hW.2, rfl, rfl, rfl, rfl, fun z => absurd (show (1 : Int32) = 0 from z) (by decide), fun _ => ⟨rfl, rfl, rfl⟩⟩
theorem isO_iff (x c : Int32) : isO x c ↔ ¬ isS x c := by
  unfold isO isS isB
  have e15 : (15 : Int32).toInt = 15 := rfl
  have e16 : (16 : Int32).toInt = 16 := rfl
  have a3 : ¬ 16 < x + c ↔ x + c ≤ 16 := Int32.not_lt
  rw [a3]
  have a4 : (15 : Int32) < x ↔ (16 : Int32) ≤ x := by rw [ilt, ile]; omega
  rw [a4]
  constructor
  · rintro (h | h | h | h | h) ⟨⟨g1, g2⟩, g3, g4, g5⟩
    · exact g1 h
    · exact g2 h
    · exact g3 h
    · exact g4 h
    · exact h g5
  · intro h
    by_cases h1 : x < 0
    · exact Or.inl h1
    by_cases h2 : (16 : Int32) ≤ x
    · exact Or.inr (Or.inl h2)
    by_cases h3 : c < 1
    · exact Or.inr (Or.inr (Or.inl h3))
    by_cases h4 : 3 < c
    · exact Or.inr (Or.inr (Or.inr (Or.inl h4)))
    by_cases h5 : x + c ≤ 16
    · exact absurd ⟨⟨h1, h2⟩, h3, h4, h5⟩ h
    · exact Or.inr (Or.inr (Or.inr (Or.inr h5)))
theorem isS_rng {x c : Int32} (h : isS x c) : ∃ f' c' : Nat, x = nI f' ∧ c = nI c' ∧ f' + c' ≤ 16 ∧ c' ≤ 3 := by
  obtain ⟨⟨h1, h2⟩, h3, h4, h5⟩ := h
  obtain ⟨f, hf, rfl⟩ : ∃ f : Nat, f < 16 ∧ x = nI f := by
    rcases pk_ix x (n := 16) (by decide) with z | z | z
    · exact absurd z h1
    · exact absurd z h2
    · exact z
  obtain ⟨d, hd, rfl⟩ : ∃ d : Nat, d < 4 ∧ c = nI d := by
    rcases pk_ix c (n := 4) (by decide) with z | z | z
    · refine absurd z (fun y => h3 ?_)
      have y' := ilt.mp y
      have e0 : (0 : Int32).toInt = 0 := rfl
      have e1 : (1 : Int32).toInt = 1 := rfl
      exact ilt.mpr (by omega)
    · refine absurd z (fun y => h4 ?_)
      have y' := ile.mp y
      have e0 : (nI 4).toInt = 4 := rfl
      have e1 : (3 : Int32).toInt = 3 := rfl
      exact ilt.mpr (by omega)
    · exact z
  refine ⟨f, d, rfl, rfl, ?_, by omega⟩
  rw [nI_add] at h5
  have : nI (f + d) ≤ nI 16 := Int32.not_lt.mp h5
  exact (nI_leI (by omega) (by decide)).mp this
theorem out_in {x : Int32} {n q : Nat} (h : x < 0 ∨ nI n ≤ x) (hq : q < n) (e : x = nI q) (hn : n < 2 ^ 31) : False := by
  subst e
  rcases h with z | z
  · exact nI_pos (by omega) z
  · have := (nI_leI hn (by omega)).mp z
    omega
section ANS
variable {t : Nat} {A : G1} {B : G2}
theorem Sim.q (h : Sim t A B) : SQ A B := by
  obtain ⟨W, a, -⟩ := h
  exact a
theorem Sim.l (h : Sim t A B) : SL A B := by
  obtain ⟨W, -, a, -⟩ := h
  exact a
theorem Sim.c (h : Sim t A B) : SC t A B := by
  obtain ⟨W, -, -, a, -⟩ := h
  exact a
theorem Sim.m (h : Sim t A B) : SM A := by
  obtain ⟨W, -, -, -, a, -⟩ := h
  exact a
theorem Sim.r (h : Sim t A B) : SR A B := by
  obtain ⟨W, -, -, -, -, -, a, -⟩ := h
  exact a
theorem Sim.s (h : Sim t A B) : ∃ W, (¬ A.I 1 = 0 → SW t W A) ∧ SS W A B := by
  obtain ⟨W, -, -, -, -, b, -, a⟩ := h
  exact ⟨W, b, a⟩
theorem Sim.ses (h : Sim t A B) : A.I 1 = B.I 4 := by
  obtain ⟨W, -, a⟩ := h.s
  exact a.2.2.2.2.1
theorem Sim.cached (h : Sim t A B) (ht : t < 2 ^ 20) {x z z' : Int32} (h1 : ((x < 0 ∨ nI (A.N 1) ≤ x) ∧ z = -3) ∨ ∃ j, j < A.N 1 ∧ x = nI j ∧ z = A.T 1 j) (h2 : (¬ x < 0 ∧ x ≤ 15 ∧ bAt (B.T 3) x z') ∨ ((x < 0 ∨ ¬ x ≤ 15) ∧ z' = -3)) : z' = z := by
  have c2 := h.c.2.1
  have c4 := h.c.2.2.2.1
  obtain ⟨bl, s, clk, -, -, hs, hq⟩ := h.c.stp (by omega)
  rcases h1 with ⟨o, rfl⟩ | ⟨j, hj, rfl, rfl⟩
  · rcases h2 with ⟨n0, n15, b⟩ | ⟨-, e⟩
    · obtain ⟨p, hp, rfl⟩ : ∃ p : Nat, p < 16 ∧ x = nI p := by
        obtain ⟨p, hp, e⟩ := nI_of2 (M := 15) (n := 15) rfl n0 n15
        exact ⟨p, by omega, e⟩
      rcases b with ⟨b, hb, hat, -⟩ | ⟨-, e⟩
      · have := (hs.at (by omega) hp hb).mp hat
        exact (out_in o this.1 rfl (by omega)).elim
      · exact e
    · exact e
  · rcases h2 with ⟨n0, n15, b⟩ | ⟨o, e⟩
    · rcases b with ⟨b, hb, hat, e⟩ | ⟨no, -⟩
      · have := (hs.at (by omega) (p := j) (by omega) hb).mp hat
        rw [e, (hq j hj).1, this.2]
      · exact absurd ((hs.at (by omega) (p := j) (by omega) (hs.2.2.1 j hj).1).mpr ⟨hj, rfl⟩) (no _ (hs.2.2.1 j hj).1)
    · rcases o with z | z
      · exact absurd z (nI_pos (by omega))
      · exact absurd (nI_le (a := j) (b := 15) (by omega) (by decide)) z
theorem cnt_TT (h : Sim t A B) (b : Int32) : cnt (A.T 7) b (A.N 0) = cnt (B.T 8) b (A.N 0) := cnt_congr (fun j hj => (h.q.2.2 j hj).2.2.2.2.1)
theorem Sim.count (h : Sim t A B) (ht : t < 2 ^ 20) (x : Int32) : B.countA (A.N 0) x = A.countA x := by
  obtain ⟨bl, s, clk, -, -, hs, hq⟩ := h.c.stp (by omega)
  have hsz := hs.size
  obtain ⟨W, -, hS⟩ := h.s
  have e8 : A.I 2 = B.I 8 := hS.2.2.2.2.2.1
  have e4 : A.I 1 = B.I 4 := hS.2.2.2.2.1
  have key : (if B.I 4 = 0 then (0 : Int32) else B.I 5) = A.I 3 ∧ (if B.I 4 = 0 then (0 : Int32) else B.I 6) = A.I 4 ∧ (if B.I 4 = 0 then (0 : Int32) else B.I 7) = A.I 5 := by
    rw [← e4]
    by_cases z : A.I 1 = 0
    · obtain ⟨a, b, c, -⟩ := hS.2.2.2.2.2.2.1 z
      rw [if_pos z, if_pos z, if_pos z, a, b, c]
      exact ⟨rfl, rfl, rfl⟩
    · obtain ⟨a, b, c⟩ := hS.2.2.2.2.2.2.2 z
      rw [if_neg z, if_neg z, if_neg z, a, b, c]
      exact ⟨rfl, rfl, rfl⟩
  have out : (x < 0 ∨ nI 9 ≤ x) → B.countA (A.N 0) x = A.countA x := fun o => by
    rw [countA_out A o]
    unfold G2.countA
    have e0 : (0 : Int32).toInt = 0 := rfl
    have e1 : (1 : Int32).toInt = 1 := rfl
    have e3 : (3 : Int32).toInt = 3 := rfl
    have e5 : (5 : Int32).toInt = 5 := rfl
    have e7 : (7 : Int32).toInt = 7 := rfl
    have e9 : (nI 9).toInt = 9 := rfl
    have o' : x.toInt < 0 ∨ 9 ≤ x.toInt := by
      rcases o with y | y
      · have := ilt.mp y
        omega
      · have := ile.mp y
        omega
    rw [if_neg (fun e => by subst e; revert o; decide), if_neg (by rw [ilt, ilt]; omega), if_neg (fun e => by subst e; revert o; decide), if_neg (fun e => by subst e; revert o; decide), if_pos (by rw [ilt, ile]; omega)]
  rcases pk_ix x (n := 9) (by decide) with z | z | ⟨j, hj, rfl⟩
  · exact out (Or.inl z)
  · exact out (Or.inr z)
  · rcases (show j = 0 ∨ j = 1 ∨ j = 2 ∨ j = 3 ∨ j = 4 ∨ j = 5 ∨ j = 6 ∨ j = 7 ∨ j = 8 by omega) with rfl | rfl | rfl | rfl | rfl | rfl | rfl | rfl | rfl
    · rfl
    · exact congrArg nI (cnt_TT h 0).symm
    · exact congrArg nI (cnt_TT h 1).symm
    · exact congrArg nI (cnt_TT h 2).symm
    · exact congrArg nI hsz
    · exact key.1
    · exact key.2.1
    · exact key.2.2
    · exact e8.symm
theorem Sim.fld0 (h : Sim t A B) {j : Nat} (hj : j < A.N 2) (f : Int32) : fldB B (0 + j) f = fldA A 0 j f := by
  have g := h.l.2.2.1
  unfold fldB fldA
  rw [Nat.zero_add, show 10 + 10 * 0 = 10 from rfl, show 11 + 10 * 0 = 11 from rfl, show 12 + 10 * 0 = 12 from rfl, show 14 + 10 * 0 = 14 from rfl, show 15 + 10 * 0 = 15 from rfl, g 10 j (by omega) (by omega) hj, g 11 j (by omega) (by omega) hj, g 12 j (by omega) (by omega) hj, g 14 j (by omega) (by omega) hj, g 15 j (by omega) (by omega) hj]
theorem Sim.fld1 (h : Sim t A B) {j : Nat} (hj : j < A.N 3) (f : Int32) : fldB B (64 + j) f = fldA A 1 j f := by
  have g := h.l.2.2.2.1
  unfold fldB fldA
  rw [show 10 + 10 * 1 = 10 + 10 from rfl, show 11 + 10 * 1 = 11 + 10 from rfl, show 12 + 10 * 1 = 12 + 10 from rfl, show 14 + 10 * 1 = 14 + 10 from rfl, show 15 + 10 * 1 = 15 + 10 from rfl, g 10 j (by omega) (by omega) hj, g 11 j (by omega) (by omega) hj, g 12 j (by omega) (by omega) hj, g 14 j (by omega) (by omega) hj, g 15 j (by omega) (by omega) hj]
end ANS
