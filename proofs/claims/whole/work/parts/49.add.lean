theorem R1.dom {cI cR cM : ClassId} {M : Mem} {ad : Nat → Nat} {G : G1} (h : R1 cI cR cM M ad G) (t : Nat) (ht : t < 30 + 2 * G.N 0) : ∃ e, M (ad t) = some e := by
  by_cases h30 : 30 ≤ t
  · obtain ⟨i, hi⟩ : ∃ i, t = 30 + 2 * i ∨ t = 31 + 2 * i := ⟨(t - 30) / 2, by omega⟩
    rcases hi with rfl | rfl
    · exact ⟨_, h.rq i (by omega)⟩
    · exact ⟨_, h.rr i (by omega)⟩
  · by_cases h14 : 14 ≤ t
    · exact ⟨_, by have := h.ms 1 (t - 14) (by decide) (by simp only [cap]; omega); rw [show mb 1 + (t - 14) = t from by simp only [mb]; omega] at this; exact this⟩
    · by_cases h10 : 10 ≤ t
      · exact ⟨_, by have := h.ms 0 (t - 10) (by decide) (by simp only [cap]; omega); rw [show mb 0 + (t - 10) = t from by simp only [mb]; omega] at this; exact this⟩
      · rcases (show t = 0 ∨ t = 1 ∨ t = 2 ∨ t = 3 ∨ t = 4 ∨ t = 5 ∨ t = 6 ∨ t = 7 ∨ t = 8 ∨ t = 9 by omega) with rfl | rfl | rfl | rfl | rfl | rfl | rfl | rfl | rfl | rfl
        · exact ⟨_, h.o⟩
        · exact ⟨_, h.st⟩
        · exact ⟨_, h.dk⟩
        · exact ⟨_, h.cb⟩
        · exact ⟨_, h.cv⟩
        · exact ⟨_, h.rs⟩
        · exact ⟨_, h.ln 0 (by decide)⟩
        · exact ⟨_, h.sl 0 (by decide)⟩
        · exact ⟨_, h.ln 1 (by decide)⟩
        · exact ⟨_, h.sl 1 (by decide)⟩
/-- a new request -/
def G1.addq (G : G1) (k f c v : Int32) : G1 := (va_up G.1 0 (G.N 0 + 1), G.2.1, fun t i => if 3 ≤ t ∧ t ≤ 7 ∧ i = G.N 0 then v6 k f c v 0 0 (t - 3) else G.T t i, va_up G.2.2.2 (G.N 0) (fun _ => 0))
theorem addq_T (G : G1) (k f c v : Int32) (t i : Nat) (h : ¬ (3 ≤ t ∧ t ≤ 7 ∧ i = G.N 0)) : (G.addq k f c v).T t i = G.T t i := if_neg h
theorem addq_Tn (G : G1) (k f c v : Int32) (t : Nat) (h : 3 ≤ t ∧ t ≤ 7) : (G.addq k f c v).T t (G.N 0) = v6 k f c v 0 0 (t - 3) := if_pos ⟨h.1, h.2, rfl⟩
theorem addq_Tt (G : G1) (k f c v : Int32) (t : Nat) (h : ¬ (3 ≤ t ∧ t ≤ 7)) : (G.addq k f c v).T t = G.T t := funext fun i => if_neg (fun z => h ⟨z.1, z.2.1⟩)
theorem R1.add {cI cR cM : ClassId} {M : Mem} {ad : Nat → Nat} {G : G1} (h : R1 cI cR cM M ad G) (hn : G.N 0 < 120) {q a : Nat} (hq : M q = none) (ha : M a = none) (hqa : a ≠ q) (k f c v : Int32) (N : Nat) (hN : N = if k = 1 then c.toNatClampNeg else 0) :
    ∃ ad2 : Nat → Nat, ad2 0 = ad 0 ∧ R1 cI cR cM (mset (mset (mset (mset M q (ob 2 [.int k, .int f, .int c, .int v, .ref a, .int 0])) a (aI cI N (fun _ => 0))) (ad 5) (aQ cR 120 (va_up (fun i => if i < G.N 0 then some (ad (30 + 2 * i)) else none) (G.N 0) (some q)))) (ad 0) (ob 4 [.int (G.I 0), .ref (ad 1), .ref (ad 5), .int (nI (G.N 0 + 1)), .ref (ad 6), .ref (ad 8), .int (G.I 1), .int (G.I 2), .int (G.I 3), .int (G.I 4), .int (G.I 5)])) ad2 (G.addq k f c v) := by
  have nq : ∀ t, t < 30 + 2 * G.N 0 → ad t ≠ q := fun t ht e => by
    obtain ⟨x, hx⟩ := h.dom t ht
    rw [e, hq] at hx
    cases hx
  have na : ∀ t, t < 30 + 2 * G.N 0 → ad t ≠ a := fun t ht e => by
    obtain ⟨x, hx⟩ := h.dom t ht
    rw [e, ha] at hx
    cases hx
  generalize hM2 : mset (mset (mset (mset M q (ob 2 [.int k, .int f, .int c, .int v, .ref a, .int 0])) a (aI cI N (fun _ => 0))) (ad 5) (aQ cR 120 (va_up (fun i => if i < G.N 0 then some (ad (30 + 2 * i)) else none) (G.N 0) (some q)))) (ad 0) (ob 4 [.int (G.I 0), .ref (ad 1), .ref (ad 5), .int (nI (G.N 0 + 1)), .ref (ad 6), .ref (ad 8), .int (G.I 1), .int (G.I 2), .int (G.I 3), .int (G.I 4), .int (G.I 5)]) = M2
  have hk : ∀ s, s < 30 + 2 * G.N 0 → s ≠ 0 → s ≠ 5 → M2 (ad s) = M (ad s) := fun s hs n1 n2 => by
    rw [← hM2, mset_ne (h.inj hs (by omega) n1), mset_ne (h.inj hs (by omega) n2), mset_ne (na s hs), mset_ne (nq s hs)]
  have h5 : M2 (ad 5) = some (aQ cR 120 (va_up (fun i => if i < G.N 0 then some (ad (30 + 2 * i)) else none) (G.N 0) (some q))) := by
    rw [← hM2, mset_ne (h.inj (by omega) (by omega) (by omega)), mset_self]
  have hqM : M2 q = some (ob 2 [.int k, .int f, .int c, .int v, .ref a, .int 0]) := by
    rw [← hM2, mset_ne (Ne.symm (nq 0 (by omega))), mset_ne (Ne.symm (nq 5 (by omega))), mset_ne (Ne.symm hqa), mset_self]
  have haM : M2 a = some (aI cI N (fun _ => 0)) := by
    rw [← hM2, mset_ne (Ne.symm (na 0 (by omega))), mset_ne (Ne.symm (na 5 (by omega))), mset_self]
  let ad2 : Nat → Nat := fun t => if t = 30 + 2 * G.N 0 then q else if t = 31 + 2 * G.N 0 then a else ad t
  have e1 : ∀ t, t < 30 + 2 * G.N 0 → ad2 t = ad t := fun t ht => by
    show (if t = 30 + 2 * G.N 0 then q else if t = 31 + 2 * G.N 0 then a else ad t) = _
    rw [if_neg (by omega), if_neg (by omega)]
  have e2 : ad2 (30 + 2 * G.N 0) = q := if_pos rfl
  have e3 : ad2 (31 + 2 * G.N 0) = a := by
    show (if 31 + 2 * G.N 0 = 30 + 2 * G.N 0 then q else if 31 + 2 * G.N 0 = 31 + 2 * G.N 0 then a else ad (31 + 2 * G.N 0)) = _
    rw [if_neg (by omega), if_pos rfl]
  have n0 : (G.addq k f c v).N 0 = G.N 0 + 1 := va_up_self G.1 0 (G.N 0 + 1)
  have nn : ∀ j, j ≠ 0 → (G.addq k f c v).N j = G.N j := fun j hj => va_up_ne _ _ hj
  have tt : ∀ t, ¬ (3 ≤ t ∧ t ≤ 7) → (G.addq k f c v).T t = G.T t := fun t ht => addq_Tt G k f c v t ht
  refine ⟨ad2, e1 0 (by omega), ?_, ?_, ?_, ?_, ?_, ?_, ?_, ?_, ?_, ?_, ?_, ?_⟩
  · intro t t' ht ht' e
    rw [n0] at ht ht'
    have cs : ∀ s, s < 30 + 2 * (G.N 0 + 1) → s < 30 + 2 * G.N 0 ∨ s = 30 + 2 * G.N 0 ∨ s = 31 + 2 * G.N 0 := fun s hs => by omega
    rcases cs t ht with c1 | rfl | rfl <;> rcases cs t' ht' with c2 | rfl | rfl
    · rw [e1 t c1, e1 t' c2] at e; exact h.1 t t' c1 c2 e
    · rw [e1 t c1, e2] at e; exact absurd e (nq t c1)
    · rw [e1 t c1, e3] at e; exact absurd e (na t c1)
    · rw [e1 t' c2, e2] at e; exact absurd e.symm (nq t' c2)
    · rfl
    · rw [e2, e3] at e; exact absurd e.symm hqa
    · rw [e1 t' c2, e3] at e; exact absurd e.symm (na t' c2)
    · rw [e2, e3] at e; exact absurd e hqa
    · rfl
  · rw [e1 0 (by omega), ← hM2, mset_self]
    simp only [bf]
    rw [e1 1 (by omega), e1 5 (by omega), e1 6 (by omega), e1 8 (by omega), n0]
    rfl
  · rw [e1 1 (by omega), hk 1 (by omega) (by omega) (by omega), h.st, e1 2 (by omega), e1 3 (by omega), e1 4 (by omega), nn 4 (by decide), nn 1 (by decide)]
  · rw [e1 2 (by omega), hk 2 (by omega) (by omega) (by omega), h.dk, tt 0 (by omega)]
  · rw [e1 3 (by omega), hk 3 (by omega) (by omega) (by omega), h.cb, tt 1 (by omega), nn 4 (by decide)]
  · rw [e1 4 (by omega), hk 4 (by omega) (by omega) (by omega), h.cv, tt 2 (by omega), nn 4 (by decide)]
  · rw [e1 5 (by omega), h5, n0]
    congr 2
    congr 6
    funext i
    by_cases ci : i = G.N 0
    · subst ci
      rw [va_up_self, if_pos (by omega), e2]
    · rw [va_up_ne _ _ ci]
      by_cases cj : i < G.N 0
      · rw [if_pos cj, if_pos (by omega), e1 _ (by omega)]
      · rw [if_neg cj, if_neg (by omega)]
  · intro x hx
    rw [e1 _ (by omega), e1 _ (by omega), hk _ (by omega) (by omega) (by omega), h.ln x hx, nn _ (by omega)]
  · intro x hx
    rw [e1 _ (by omega), hk _ (by omega) (by omega) (by omega), h.sl x hx]
    congr 2
    congr 6
    funext j
    by_cases cj : j < cap x
    · rw [if_pos cj, if_pos cj, e1 _ (by simp only [mb, cap] at *; omega)]
    · rw [if_neg cj, if_neg cj]
  · intro x j hx hj
    rw [e1 _ (by simp only [mb, cap] at *; omega), hk _ (by simp only [mb, cap] at *; omega) (by simp only [mb]; omega) (by simp only [mb]; omega), h.ms x j hx hj]
    simp only [mf]
    rw [tt _ (by omega), tt _ (by omega), tt _ (by omega), tt _ (by omega), tt _ (by omega), tt _ (by omega)]
  · intro i hi
    rw [n0] at hi
    by_cases ci : i = G.N 0
    · subst ci
      rw [e2, hqM]
      simp only [rf]
      rw [e3, addq_Tn _ _ _ _ _ 3 (by omega), addq_Tn _ _ _ _ _ 4 (by omega), addq_Tn _ _ _ _ _ 5 (by omega), addq_Tn _ _ _ _ _ 6 (by omega), addq_Tn _ _ _ _ _ 7 (by omega)]
      rfl
    · rw [e1 _ (by omega), hk _ (by omega) (by omega) (by omega), h.rq i (by omega)]
      simp only [rf]
      rw [e1 _ (by omega), addq_T _ _ _ _ _ 3 i (by omega), addq_T _ _ _ _ _ 4 i (by omega), addq_T _ _ _ _ _ 5 i (by omega), addq_T _ _ _ _ _ 6 i (by omega), addq_T _ _ _ _ _ 7 i (by omega)]
  · intro i hi
    rw [n0] at hi
    by_cases ci : i = G.N 0
    · subst ci
      rw [e3, haM, hN]
      simp only [rlen]
      rw [addq_Tn _ _ _ _ _ 3 (by omega), addq_Tn _ _ _ _ _ 5 (by omega)]
      show _ = some (aI cI _ (va_up G.2.2.2 (G.N 0) (fun _ => 0) (G.N 0)))
      rw [va_up_self]
      rfl
    · rw [e1 _ (by omega), hk _ (by omega) (by omega) (by omega), h.rr i (by omega)]
      simp only [rlen]
      rw [addq_T _ _ _ _ _ 3 i (by omega), addq_T _ _ _ _ _ 5 i (by omega)]
      show _ = some (aI cI _ (va_up G.2.2.2 (G.N 0) (fun _ => 0) i))
      rw [va_up_ne _ _ ci]
