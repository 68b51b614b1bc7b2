/-! The class's state, and how the memory holds it. -/
abbrev tyL (cI cZ cR cM : ClassId) : List (ClassId × FieldType) := [(cI, .int), (cZ, .boolean), (cR, .object "BlockTargetSession$Request"), (cM, .object "BlockTargetSession$Message")]
/-- naturals: 0 requests, 1 cache size, 2 up size, 3 down size, 4 room. ints: 0 window, 1 in session, 2 sessions, 3 sends, 4 dones, 5 credit. tables: 0 disk, 1 cache blocks, 2 cache ints, 3 kind, 4 first, 5 count, 6 value, 7 state, 10 .. 15 up messages, 20 .. 25 down messages. results. -/
abbrev G1 : Type := (Nat → Nat) × (Nat → Int32) × (Nat → Nat → Int32) × (Nat → Nat → Int32)
abbrev G1.N (G : G1) : Nat → Nat := G.1
abbrev G1.I (G : G1) : Nat → Int32 := G.2.1
abbrev G1.T (G : G1) : Nat → Nat → Int32 := G.2.2.1
abbrev G1.R (G : G1) : Nat → Nat → Int32 := G.2.2.2
def G1.sN (G : G1) (k v : Nat) : G1 := (va_up G.1 k v, G.2)
def G1.sI (G : G1) (k : Nat) (v : Int32) : G1 := (G.1, va_up G.2.1 k v, G.2.2)
def G1.sT (G : G1) (k : Nat) (f : Nat → Int32) : G1 := (G.1, G.2.1, va_up G.2.2.1 k f, G.2.2.2)
def G1.sR (G : G1) (k : Nat) (f : Nat → Int32) : G1 := (G.1, G.2.1, G.2.2.1, va_up G.2.2.2 k f)
abbrev cap (x : Nat) : Nat := 4 + 12 * x
abbrev mb (x : Nat) : Nat := 10 + 4 * x
abbrev mf (G : G1) (x j : Nat) : List Value := [.int (G.T (10 + 10 * x) j), .int (G.T (11 + 10 * x) j), .int (G.T (12 + 10 * x) j), .int (G.T (13 + 10 * x) j), .int (G.T (14 + 10 * x) j), .int (G.T (15 + 10 * x) j)]
abbrev bf (ad : Nat → Nat) (G : G1) : List Value := [.int (G.I 0), .ref (ad 1), .ref (ad 5), .int (nI (G.N 0)), .ref (ad 6), .ref (ad 8), .int (G.I 1), .int (G.I 2), .int (G.I 3), .int (G.I 4), .int (G.I 5)]
abbrev rf (ad : Nat → Nat) (G : G1) (i : Nat) : List Value := [.int (G.T 3 i), .int (G.T 4 i), .int (G.T 5 i), .int (G.T 6 i), .ref (ad (31 + 2 * i)), .int (G.T 7 i)]
def rlen (G : G1) (i : Nat) : Nat := if G.T 3 i = 1 then (G.T 5 i).toNatClampNeg else 0
def R1 (cI cR cM : ClassId) (M : Mem) (ad : Nat → Nat) (G : G1) : Prop :=
  (∀ t t', t < 30 + 2 * G.N 0 → t' < 30 + 2 * G.N 0 → ad t = ad t' → t = t') ∧
  M (ad 0) = some (ob 4 (bf ad G)) ∧
  M (ad 1) = some (ob 3 [.int (nI (G.N 4)), .ref (ad 2), .ref (ad 3), .ref (ad 4), .int (nI (G.N 1))]) ∧
  M (ad 2) = some (aI cI 16 (G.T 0)) ∧
  M (ad 3) = some (aI cI (G.N 4 + 1) (G.T 1)) ∧
  M (ad 4) = some (aI cI (G.N 4 + 1) (G.T 2)) ∧
  M (ad 5) = some (aQ cR 120 (fun i => if i < G.N 0 then some (ad (30 + 2 * i)) else none)) ∧
  (∀ x, x < 2 → M (ad (6 + 2 * x)) = some (ob 0 [.ref (ad (7 + 2 * x)), .int (nI (G.N (2 + x)))])) ∧
  (∀ x, x < 2 → M (ad (7 + 2 * x)) = some (aQ cM (cap x) (fun j => if j < cap x then some (ad (mb x + j)) else none))) ∧
  (∀ x j, x < 2 → j < cap x → M (ad (mb x + j)) = some (ob 1 (mf G x j))) ∧
  (∀ i, i < G.N 0 → M (ad (30 + 2 * i)) = some (ob 2 (rf ad G i))) ∧
  (∀ i, i < G.N 0 → M (ad (31 + 2 * i)) = some (aI cI (rlen G i) (G.R i)))
section R1S
variable {cI cR cM : ClassId} {M : Mem} {ad : Nat → Nat} {G : G1}
theorem R1.inj (h : R1 cI cR cM M ad G) {t t' : Nat} (ht : t < 30 + 2 * G.N 0) (ht' : t' < 30 + 2 * G.N 0) (hne : t ≠ t') : ad t ≠ ad t' := fun e => hne (h.1 t t' ht ht' e)
theorem R1.o (h : R1 cI cR cM M ad G) : M (ad 0) = some (ob 4 (bf ad G)) := h.2.1
theorem R1.st (h : R1 cI cR cM M ad G) : M (ad 1) = some (ob 3 [.int (nI (G.N 4)), .ref (ad 2), .ref (ad 3), .ref (ad 4), .int (nI (G.N 1))]) := h.2.2.1
theorem R1.dk (h : R1 cI cR cM M ad G) : M (ad 2) = some (aI cI 16 (G.T 0)) := h.2.2.2.1
theorem R1.cb (h : R1 cI cR cM M ad G) : M (ad 3) = some (aI cI (G.N 4 + 1) (G.T 1)) := h.2.2.2.2.1
theorem R1.cv (h : R1 cI cR cM M ad G) : M (ad 4) = some (aI cI (G.N 4 + 1) (G.T 2)) := h.2.2.2.2.2.1
theorem R1.rs (h : R1 cI cR cM M ad G) : M (ad 5) = some (aQ cR 120 (fun i => if i < G.N 0 then some (ad (30 + 2 * i)) else none)) := h.2.2.2.2.2.2.1
theorem R1.ln (h : R1 cI cR cM M ad G) (x : Nat) (hx : x < 2) : M (ad (6 + 2 * x)) = some (ob 0 [.ref (ad (7 + 2 * x)), .int (nI (G.N (2 + x)))]) := h.2.2.2.2.2.2.2.1 x hx
theorem R1.sl (h : R1 cI cR cM M ad G) (x : Nat) (hx : x < 2) : M (ad (7 + 2 * x)) = some (aQ cM (cap x) (fun j => if j < cap x then some (ad (mb x + j)) else none)) := h.2.2.2.2.2.2.2.2.1 x hx
theorem R1.ms (h : R1 cI cR cM M ad G) (x j : Nat) (hx : x < 2) (hj : j < cap x) : M (ad (mb x + j)) = some (ob 1 (mf G x j)) := h.2.2.2.2.2.2.2.2.2.1 x j hx hj
theorem R1.rq (h : R1 cI cR cM M ad G) (i : Nat) (hi : i < G.N 0) : M (ad (30 + 2 * i)) = some (ob 2 (rf ad G i)) := h.2.2.2.2.2.2.2.2.2.2.1 i hi
theorem R1.rr (h : R1 cI cR cM M ad G) (i : Nat) (hi : i < G.N 0) : M (ad (31 + 2 * i)) = some (aI cI (rlen G i) (G.R i)) := h.2.2.2.2.2.2.2.2.2.2.2 i hi
/-- a write at one tag: what must be shown of the new state -/
theorem R1.put (h : R1 cI cR cM M ad G) (t : Nat) (ht : t < 30 + 2 * G.N 0) {e : va_E} {G' : G1} (hN : G'.N 0 = G.N 0)
    (h0 : if t = 0 then e = ob 4 (bf ad G') else bf ad G' = bf ad G)
    (h1 : if t = 1 then e = ob 3 [.int (nI (G'.N 4)), .ref (ad 2), .ref (ad 3), .ref (ad 4), .int (nI (G'.N 1))] else (G'.N 4 = G.N 4 ∧ G'.N 1 = G.N 1))
    (h2 : if t = 2 then e = aI cI 16 (G'.T 0) else G'.T 0 = G.T 0)
    (h3 : if t = 3 then e = aI cI (G'.N 4 + 1) (G'.T 1) else (G'.N 4 = G.N 4 ∧ G'.T 1 = G.T 1))
    (h4 : if t = 4 then e = aI cI (G'.N 4 + 1) (G'.T 2) else (G'.N 4 = G.N 4 ∧ G'.T 2 = G.T 2))
    (h5 : t ≠ 5)
    (h6 : ∀ x, x < 2 → if t = 6 + 2 * x then e = ob 0 [.ref (ad (7 + 2 * x)), .int (nI (G'.N (2 + x)))] else G'.N (2 + x) = G.N (2 + x))
    (h7 : ∀ x, x < 2 → t ≠ 7 + 2 * x)
    (h8 : ∀ x j, x < 2 → j < cap x → if t = mb x + j then e = ob 1 (mf G' x j) else mf G' x j = mf G x j)
    (h9 : ∀ i, i < G.N 0 → if t = 30 + 2 * i then e = ob 2 (rf ad G' i) else rf ad G' i = rf ad G i)
    (h10 : ∀ i, i < G.N 0 → if t = 31 + 2 * i then e = aI cI (rlen G' i) (G'.R i) else (rlen G' i = rlen G i ∧ G'.R i = G.R i)) : R1 cI cR cM (mset M (ad t) e) ad G' := by
  have key : ∀ (t' : Nat) (e0 e1 : va_E), t' < 30 + 2 * G.N 0 → M (ad t') = some e0 → (if t = t' then e = e1 else e1 = e0) → mset M (ad t) e (ad t') = some e1 := by
    intro t' e0 e1 ht' hM hq
    by_cases htt : t = t'
    · subst htt
      rw [if_pos rfl] at hq
      rw [mset_self, hq]
    · rw [if_neg htt] at hq
      rw [mset_ne (h.inj ht' ht (Ne.symm htt)), hM, hq]
  refine ⟨?_, ?_, ?_, ?_, ?_, ?_, ?_, ?_, ?_, ?_, ?_, ?_⟩
  · rw [hN]; exact h.1
  · refine key 0 _ _ (by omega) h.o ?_
    by_cases c : t = 0
    · simp only [if_pos c] at h0 ⊢; exact h0
    · simp only [if_neg c] at h0 ⊢; rw [h0]
  · refine key 1 _ _ (by omega) h.st ?_
    by_cases c : t = 1
    · simp only [if_pos c] at h1 ⊢; exact h1
    · simp only [if_neg c] at h1 ⊢; rw [h1.1, h1.2]
  · refine key 2 _ _ (by omega) h.dk ?_
    by_cases c : t = 2
    · simp only [if_pos c] at h2 ⊢; exact h2
    · simp only [if_neg c] at h2 ⊢; rw [h2]
  · refine key 3 _ _ (by omega) h.cb ?_
    by_cases c : t = 3
    · simp only [if_pos c] at h3 ⊢; exact h3
    · simp only [if_neg c] at h3 ⊢; rw [h3.1, h3.2]
  · refine key 4 _ _ (by omega) h.cv ?_
    by_cases c : t = 4
    · simp only [if_pos c] at h4 ⊢; exact h4
    · simp only [if_neg c] at h4 ⊢; rw [h4.1, h4.2]
  · refine key 5 _ _ (by omega) h.rs ?_
    rw [if_neg h5, hN]
  · intro x hx
    refine key (6 + 2 * x) _ _ (by omega) (h.ln x hx) ?_
    have := h6 x hx
    by_cases c : t = 6 + 2 * x
    · simp only [if_pos c] at this ⊢; exact this
    · simp only [if_neg c] at this ⊢; rw [this]
  · intro x hx
    refine key (7 + 2 * x) _ _ (by omega) (h.sl x hx) ?_
    rw [if_neg (h7 x hx)]
  · intro x j hx hj
    refine key (mb x + j) _ _ (by simp only [mb, cap] at *; omega) (h.ms x j hx hj) ?_
    have := h8 x j hx hj
    by_cases c : t = mb x + j
    · simp only [if_pos c] at this ⊢; exact this
    · simp only [if_neg c] at this ⊢; rw [this]
  · intro i hi
    rw [hN] at hi
    refine key (30 + 2 * i) _ _ (by omega) (h.rq i hi) ?_
    have := h9 i hi
    by_cases c : t = 30 + 2 * i
    · simp only [if_pos c] at this ⊢; exact this
    · simp only [if_neg c] at this ⊢; rw [this]
  · intro i hi
    rw [hN] at hi
    refine key (31 + 2 * i) _ _ (by omega) (h.rr i hi) ?_
    have := h10 i hi
    by_cases c : t = 31 + 2 * i
    · simp only [if_pos c] at this ⊢; exact this
    · simp only [if_neg c] at this ⊢; rw [this.1, this.2]
end R1S
