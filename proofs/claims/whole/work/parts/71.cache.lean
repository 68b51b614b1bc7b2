/-! counting, and the cache seen from both sides -/
def ctP (p : Nat → Bool) : Nat → Nat
  | 0 => 0
  | n + 1 => ctP p n + (if p n = true then 1 else 0)
theorem ctP_congr {p q : Nat → Bool} : ∀ {n : Nat}, (∀ c, c < n → p c = q c) → ctP p n = ctP q n
  | 0, _ => rfl
  | n + 1, h => by rw [ctP, ctP, ctP_congr (n := n) (fun c hc => h c (by omega)), h n (by omega)]
theorem ctP_add {p q : Nat → Bool} {a : Nat} (ha : q a = false) (hp : p a = true) : ∀ {n : Nat}, (∀ c, c < n → c ≠ a → p c = q c) → ctP p n = ctP q n + (if a < n then 1 else 0)
  | 0, _ => rfl
  | n + 1, h => by
    rw [ctP, ctP, ctP_add ha hp (n := n) (fun c hc hca => h c (by omega) hca)]
    by_cases e : n = a
    · subst e
      rw [ha, hp, if_neg (Nat.lt_irrefl n), if_pos (show n < n + 1 by omega), if_pos (show true = true from rfl), if_neg (show ¬ false = true by decide)]
    · rw [h n (by omega) e]
      by_cases l : a < n
      · rw [if_pos l, if_pos (show a < n + 1 by omega)]; omega
      · rw [if_neg l, if_neg (show ¬ a < n + 1 by omega)]; omega
theorem ctP_none {p : Nat → Bool} : ∀ {n : Nat}, (∀ c, c < n → p c = false) → ctP p n = 0
  | 0, _ => rfl
  | n + 1, h => by rw [ctP, ctP_none (n := n) (fun c hc => h c (by omega)), h n (by omega), if_neg (by decide)]
theorem bef_ctP (f : Nat → Int32) (x : Int32) : ∀ n, bef f x n = ctP (fun c => decide (0 < f c ∧ f c < x)) n
  | 0 => rfl
  | n + 1 => by
    rw [bef, ctP, bef_ctP f x n]
    by_cases h : 0 < f n ∧ f n < x
    · rw [if_pos h, if_pos (decide_eq_true h)]
    · rw [if_neg h, if_neg (by rw [decide_eq_false h]; decide)]
theorem cpos_ctP (f : Nat → Int32) : ∀ n, cpos f n = ctP (fun c => decide (0 < f c)) n
  | 0 => rfl
  | n + 1 => by
    rw [cpos, ctP, cpos_ctP f n]
    by_cases h : 0 < f n
    · rw [if_pos h, if_pos (decide_eq_true h)]
    · rw [if_neg h, if_neg (by rw [decide_eq_false h]; decide)]
section CACHE
/-- stamps s, the list bl of cs blocks by rising stamps; f is the array of the stamps -/
def Stq (cs clk : Nat) (bl s : Nat → Nat) (f : Nat → Int32) : Prop := clk < 2 ^ 30 ∧ (∀ b, b < 16 → f b = nI (s b) ∧ s b ≤ clk) ∧ (∀ j, j < cs → bl j < 16 ∧ 0 < s (bl j)) ∧ (∀ j j', j < j' → j' < cs → s (bl j) < s (bl j')) ∧ (∀ b, b < 16 → 0 < s b → ∃ j, j < cs ∧ bl j = b)
variable {cs clk : Nat} {bl s : Nat → Nat} {f : Nat → Int32}
theorem Stq.pos (h : Stq cs clk bl s f) {b : Nat} (hb : b < 16) : 0 < f b ↔ 0 < s b := by
  obtain ⟨e, l⟩ := h.2.1 b hb
  have := h.1
  rw [e, ← nI_0]
  exact nI_ltI (by omega) (by omega)
theorem Stq.lt (h : Stq cs clk bl s f) {b c : Nat} (hb : b < 16) (hc : c < 16) : f b < f c ↔ s b < s c := by
  obtain ⟨e, l⟩ := h.2.1 b hb
  obtain ⟨e', l'⟩ := h.2.1 c hc
  have := h.1
  rw [e, e']
  exact nI_ltI (by omega) (by omega)
theorem Stq.inj (h : Stq cs clk bl s f) {i j : Nat} (hi : i < cs) (hj : j < cs) (e : bl i = bl j) : i = j := by
  rcases Nat.lt_trichotomy i j with z | z | z
  · have := h.2.2.2.1 i j z hj; rw [e] at this; omega
  · exact z
  · have := h.2.2.2.1 j i z hi; rw [e] at this; omega
theorem Stq.mono (h : Stq cs clk bl s f) {i j : Nat} (hi : i < cs) (hj : j < cs) : s (bl i) < s (bl j) ↔ i < j := by
  refine ⟨fun z => ?_, fun z => h.2.2.2.1 i j z hj⟩
  rcases Nat.lt_trichotomy i j with y | y | y
  · exact y
  · subst y; omega
  · have := h.2.2.2.1 j i y hi; omega
/-- j stamps lie before that of the list's block j -/
theorem Stq.before (h : Stq cs clk bl s f) : ∀ j, j < cs → bef f (f (bl j)) 16 = j := by
  intro j
  induction j with
  | zero =>
    intro hj
    rw [bef_ctP]
    refine ctP_none (fun c hc => decide_eq_false (fun z => ?_))
    have z1 := (h.pos hc).mp z.1
    obtain ⟨i, hi, rfl⟩ := h.2.2.2.2 c hc z1
    have := (h.mono hi hj).mp ((h.lt hc (h.2.2.1 0 hj).1).mp z.2)
    omega
  | succ j ih =>
    intro hj
    have ihj := ih (by omega)
    rw [bef_ctP] at ihj ⊢
    have hb := (h.2.2.1 j (by omega))
    have hb1 := (h.2.2.1 (j + 1) hj)
    rw [ctP_add (q := fun c => decide (0 < f c ∧ f c < f (bl j))) (a := bl j) (decide_eq_false (fun z => by have := (h.lt hb.1 hb.1).mp z.2; omega)) (decide_eq_true ⟨(h.pos hb.1).mpr hb.2, (h.lt hb.1 hb1.1).mpr (h.2.2.2.1 j (j + 1) (by omega) hj)⟩) ?_, ihj, if_pos hb.1]
    intro c hc hcb
    by_cases z : 0 < f c
    · obtain ⟨i, hi, rfl⟩ := h.2.2.2.2 c hc ((h.pos hc).mp z)
      have hij : i ≠ j := fun e => hcb (by rw [e])
      by_cases l : i < j
      · rw [decide_eq_true ⟨z, (h.lt hc hb1.1).mpr ((h.mono hi hj).mpr (by omega))⟩, decide_eq_true ⟨z, (h.lt hc hb.1).mpr ((h.mono hi (by omega)).mpr l)⟩]
      · rw [decide_eq_false (fun y => by have := (h.mono hi hj).mp ((h.lt hc hb1.1).mp y.2); omega), decide_eq_false (fun y => by have := (h.mono hi (by omega)).mp ((h.lt hc hb.1).mp y.2); omega)]
    · rw [decide_eq_false (fun y => z y.1), decide_eq_false (fun y => z y.1)]
theorem Stq.size (h : Stq cs clk bl s f) : cpos f 16 = cs := by
  rw [cpos_ctP]
  have key : ∀ k, k ≤ cs → ctP (fun c => decide (∃ i, i < k ∧ bl i = c)) 16 = k := by
    intro k
    induction k with
    | zero => intro _; exact ctP_none (fun c _ => decide_eq_false (fun ⟨i, hi, _⟩ => by omega))
    | succ k ih =>
      intro hk
      rw [ctP_add (q := fun c => decide (∃ i, i < k ∧ bl i = c)) (a := bl k) (decide_eq_false (fun ⟨i, hi, e⟩ => by have := h.inj (by omega) (by omega) e; omega)) (decide_eq_true ⟨k, by omega, rfl⟩) ?_, ih (by omega), if_pos (h.2.2.1 k (by omega)).1]
      intro c hc hcb
      by_cases z : ∃ i, i < k ∧ bl i = c
      · rw [decide_eq_true z, decide_eq_true (by obtain ⟨i, hi, e⟩ := z; exact ⟨i, by omega, e⟩)]
      · rw [decide_eq_false z, decide_eq_false (fun ⟨i, hi, e⟩ => by
          by_cases y : i = k
          · subst y; exact hcb e.symm
          · exact z ⟨i, by omega, e⟩)]
  rw [← key cs (Nat.le_refl cs)]
  refine ctP_congr (fun c hc => ?_)
  by_cases z : 0 < f c
  · rw [decide_eq_true z, decide_eq_true (h.2.2.2.2 c hc ((h.pos hc).mp z))]
  · rw [decide_eq_false z, decide_eq_false (fun ⟨i, hi, e⟩ => z ((h.pos hc).mpr (by rw [← e]; exact (h.2.2.1 i hi).2)))]
theorem Stq.at (h : Stq cs clk bl s f) (hcs : cs ≤ 16) {p b : Nat} (hp : p < 16) (hb : b < 16) : isAt f (nI p) b ↔ p < cs ∧ bl p = b := by
  constructor
  · intro ⟨z1, z2⟩
    obtain ⟨j, hj, rfl⟩ := h.2.2.2.2 b hb ((h.pos hb).mp z1)
    rw [h.before j hj] at z2
    have e := (nI_eq (by omega) (by omega)).mp z2
    subst e
    exact ⟨hj, rfl⟩
  · intro ⟨z1, z2⟩
    subst z2
    exact ⟨(h.pos hb).mpr (h.2.2.1 p z1).2, by rw [h.before p z1]⟩
end CACHE
theorem SC.stp {t : Nat} {A : G1} {B : G2} (h : SC t A B) (ht : t < 2 ^ 30) : ∃ (bl s : Nat → Nat) (clk : Nat), clk ≤ t ∧ B.I 2 = nI clk ∧ Stq (A.N 1) clk bl s (B.T 3) ∧ (∀ j, j < A.N 1 → A.T 1 j = nI (bl j) ∧ B.T 2 (bl j) = A.T 2 j) := by
  obtain ⟨-, -, -, -, -, bl, s, clk, a, b, c, d, e, g⟩ := h
  exact ⟨bl, s, clk, a, b, ⟨by omega, c, fun j hj => ⟨(d j hj).1, (d j hj).2.2.1⟩, e, g⟩, fun j hj => ⟨(d j hj).2.1, (d j hj).2.2.2⟩⟩
theorem SC.cOK {t : Nat} {A : G1} {B : G2} (h : SC t A B) : cOK A := by
  obtain ⟨-, a, -, b, -, bl, s, clk, -, -, -, d, -⟩ := h
  exact ⟨a, by omega, fun j hj => ⟨bl j, (d j hj).1, (d j hj).2.1⟩⟩
theorem SC.present {t : Nat} {A : G1} {B : G2} (h : SC t A B) (ht : t < 2 ^ 30) (b : Nat) (hb : b < 16) : A.pv b = B.vo b := by
  have hd := h.2.2.2.2.1 b hb
  obtain ⟨bl, s, clk, -, -, hs, hq⟩ := h.stp ht
  unfold G1.pv G2.vo
  by_cases z : plc (A.T 1) (nI b) (A.N 1) < A.N 1
  · have e := plc_at z
    obtain ⟨e1, e2⟩ := hq _ z
    have e3 : bl (plc (A.T 1) (nI b) (A.N 1)) = b := (nI_eq (by have := (hs.2.2.1 _ z).1; omega) (by omega)).mp (e1.symm.trans e)
    rw [if_pos z, if_neg (Int32.not_le.mpr ((hs.pos hb).mpr (by rw [← e3]; exact (hs.2.2.1 _ z).2))), ← e2, e3]
  · rw [if_neg z, if_pos ?_, hd]
    refine Int32.not_lt.mp (fun y => z ?_)
    obtain ⟨j, hj, e⟩ := hs.2.2.2.2 b hb ((hs.pos hb).mp y)
    refine Nat.lt_of_le_of_ne (plc_le _ _ _) (fun e2 => ?_)
    have : ∀ q, q < A.N 1 → A.T 1 q ≠ nI b := by
      intro q hq2 e4
      have key : ∀ n, q < n → plc (A.T 1) (nI b) n ≠ n := by
        intro n
        induction n with
        | zero => intro hh; omega
        | succ n ih =>
          intro hh e5
          unfold plc at e5
          by_cases c1 : plc (A.T 1) (nI b) n < n
          · rw [if_pos c1] at e5; omega
          · rw [if_neg c1] at e5
            by_cases c2 : A.T 1 n = nI b
            · rw [if_pos c2] at e5; omega
            · have hqn : q < n := by
                by_cases c3 : q = n
                · subst c3; exact absurd e4 c2
                · omega
              exact ih hqn (Nat.le_antisymm (plc_le _ _ _) (Nat.le_of_not_lt c1))
      exact key _ hq2 e2
    exact this j hj (by rw [(hq j hj).1, e])
