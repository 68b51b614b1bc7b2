/-! The reference's state, and how the memory holds it. -/
/-- ints: 0 window, 1 room, 2 clock, 3 requests, 4 open, 5 sends, 6 dones, 7 credit, 8 sessions. tables: 1 disk, 2 kept, 3 stamp, 4 kind, 5 first, 6 length, 7 value, 8 state, 9 results, 10 request, 11 kind, 12 number, 13 value, 14 carried, 15 damaged of messages (64 a line), 16 held. -/
abbrev G2 : Type := (Nat → Int32) × (Nat → Nat → Int32)
abbrev G2.I (G : G2) : Nat → Int32 := G.1
abbrev G2.T (G : G2) : Nat → Nat → Int32 := G.2
def G2.sI (G : G2) (k : Nat) (v : Int32) : G2 := (va_up G.1 k v, G.2)
def G2.sT (G : G2) (k : Nat) (f : Nat → Int32) : G2 := (G.1, va_up G.2 k f)
def ln2 (k : Nat) : Nat := if k ≤ 3 then 16 else if k ≤ 8 then 120 else if k = 9 then 360 else if k ≤ 15 then 128 else 2
abbrev df (ad : Nat → Nat) (G : G2) : List Value := [.int (G.I 0), .int (G.I 1), .ref (ad 1), .ref (ad 2), .ref (ad 3), .int (G.I 2), .ref (ad 4), .ref (ad 5), .ref (ad 6), .ref (ad 7), .ref (ad 8), .ref (ad 9), .int (G.I 3), .ref (ad 10), .ref (ad 11), .ref (ad 12), .ref (ad 13), .ref (ad 14), .ref (ad 15), .ref (ad 16), .int (G.I 4), .int (G.I 5), .int (G.I 6), .int (G.I 7), .int (G.I 8)]
def R2 (cI cZ : ClassId) (M : Mem) (ad : Nat → Nat) (G : G2) : Prop :=
  (∀ t t', t < 17 → t' < 17 → ad t = ad t' → t = t') ∧ M (ad 0) = some (ob 5 (df ad G)) ∧ ∀ k, 1 ≤ k → k ≤ 16 → M (ad k) = some (aI (if k = 15 then cZ else cI) (ln2 k) (G.T k))
section R2S
variable {cI cZ : ClassId} {M : Mem} {ad : Nat → Nat} {G : G2}
theorem R2.inj (h : R2 cI cZ M ad G) {t t' : Nat} (ht : t < 17) (ht' : t' < 17) (hne : t ≠ t') : ad t ≠ ad t' := fun e => hne (h.1 t t' ht ht' e)
theorem R2.o (h : R2 cI cZ M ad G) : M (ad 0) = some (ob 5 (df ad G)) := h.2.1
theorem R2.a (h : R2 cI cZ M ad G) (k : Nat) (h1 : 1 ≤ k) (h2 : k ≤ 14) : M (ad k) = some (aI cI (ln2 k) (G.T k)) := by
  have := h.2.2 k h1 (by omega)
  rw [if_neg (by omega)] at this
  exact this
theorem R2.z (h : R2 cI cZ M ad G) : M (ad 15) = some (aI cZ 128 (G.T 15)) := h.2.2 15 (by decide) (by decide)
theorem R2.hd (h : R2 cI cZ M ad G) : M (ad 16) = some (aI cI 2 (G.T 16)) := h.2.2 16 (by decide) (by decide)
theorem R2.po (h : R2 cI cZ M ad G) (k : Nat) (v : Int32) : R2 cI cZ (mset M (ad 0) (ob 5 (df ad (G.sI k v)))) ad (G.sI k v) :=
  ⟨h.1, mset_self _ _ _, fun j h1 h2 => (mset_ne (h.inj (by omega) (by omega) (by omega))).trans (h.2.2 j h1 h2)⟩
theorem R2.pa (h : R2 cI cZ M ad G) (k : Nat) (h1 : 1 ≤ k) (h2 : k ≤ 16) (f : Nat → Int32) : R2 cI cZ (mset M (ad k) (aI (if k = 15 then cZ else cI) (ln2 k) f)) ad (G.sT k f) := by
  refine ⟨h.1, (mset_ne (h.inj (by omega) (by omega) (by omega))).trans h.o, fun j j1 j2 => ?_⟩
  by_cases c : j = k
  · subst c
    rw [mset_self]
    show _ = some (aI _ _ (va_up G.2 j f j))
    rw [va_up_self]
  · rw [mset_ne (h.inj (by omega) (by omega) c), h.2.2 j j1 j2]
    show _ = some (aI _ _ (va_up G.2 k f j))
    rw [va_up_ne _ _ c]
end R2S
/-- how many of the first n stamps are above 0 -/
def cpos (f : Nat → Int32) : Nat → Nat
  | 0 => 0
  | n + 1 => cpos f n + (if 0 < f n then 1 else 0)
theorem cpos_le (f : Nat → Int32) : ∀ n, cpos f n ≤ n
  | 0 => Nat.le_refl 0
  | n + 1 => by
    have := cpos_le f n
    unfold cpos
    split <;> omega
/-- how many stamps lie before that of b -/
def bef (f : Nat → Int32) (x : Int32) : Nat → Nat
  | 0 => 0
  | n + 1 => bef f x n + (if 0 < f n ∧ f n < x then 1 else 0)
theorem bef_le (f : Nat → Int32) (x : Int32) : ∀ n, bef f x n ≤ n
  | 0 => Nat.le_refl 0
  | n + 1 => by
    have := bef_le f x n
    unfold bef
    split <;> omega
def isAt (f : Nat → Int32) (p : Int32) (b : Nat) : Prop := 0 < f b ∧ nI (bef f (f b) 16) = p
def bAt (f : Nat → Int32) (p r : Int32) : Prop := (∃ b, b < 16 ∧ isAt f p b ∧ r = nI b) ∨ ((∀ b, b < 16 → ¬ isAt f p b) ∧ r = -3)
def G2.fl (G : G2) (b : Nat) : G2 := (G.sT 1 (upd (G.T 1) b (G.T 2 b))).sT 3 (upd (G.T 3) b 0)
def G2.flR (G : G2) (r : Int32) (G' : G2) : Prop := (∃ b, b < 16 ∧ isAt (G.T 3) 0 b ∧ r = nI b ∧ G' = G.fl b) ∨ ((∀ b, b < 16 → ¬ isAt (G.T 3) 0 b) ∧ r = -3 ∧ G' = G)
def G2.pt1 (G : G2) (b : Nat) (v : Int32) : G2 := G.sT 2 (upd (G.T 2) b v)
def G2.pt2 (G : G2) (b : Nat) (v : Int32) : G2 := ((G.pt1 b v).sI 2 (G.I 2 + 1)).sT 3 (upd (G.T 3) b (G.I 2 + 1))
def G2.ptR (G : G2) (b : Nat) (v : Int32) (G' : G2) : Prop :=
  (0 < G.T 3 b ∧ G' = G.pt1 b v) ∨ (¬ 0 < G.T 3 b ∧ ((nI (cpos ((G.pt2 b v).T 3) 16) ≤ G.I 1 ∧ G' = G.pt2 b v) ∨ (¬ nI (cpos ((G.pt2 b v).T 3) 16) ≤ G.I 1 ∧ ∃ r, (G.pt2 b v).flR r G')))
