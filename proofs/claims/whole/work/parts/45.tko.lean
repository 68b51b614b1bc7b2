/-! the oldest message goes: its object comes behind the others -/
def rot (m j : Nat) : Nat := if j < m then j + 1 else if j = m then 0 else j
theorem rot_lt {m j c : Nat} (hm : m < c) (hj : j < c) : rot m j < c := by
  unfold rot
  split
  · omega
  · split <;> omega
theorem rot_inj {m i j : Nat} (h : rot m i = rot m j) : i = j := by
  unfold rot at h
  split at h <;> split at h <;> (try split at h) <;> (try split at h) <;> omega
theorem rot_m (m : Nat) : rot m m = 0 := by
  unfold rot
  rw [if_neg (by omega), if_pos rfl]
theorem rot_low {m j : Nat} (h : j < m) : rot m j = j + 1 := by
  unfold rot
  rw [if_pos h]
def rtg (x m t : Nat) : Nat := if mb x ≤ t ∧ t < mb x + cap x then mb x + rot m (t - mb x) else t
theorem rtg_out {x m t : Nat} (h : t < mb x ∨ mb x + cap x ≤ t) : rtg x m t = t := if_neg (by omega)
theorem rtg_in {x m j : Nat} (h : j < cap x) : rtg x m (mb x + j) = mb x + rot m j := by
  unfold rtg
  rw [if_pos ⟨by omega, by omega⟩, Nat.add_sub_cancel_left]
theorem rtg_low {x m t : Nat} (h : t < 10) : rtg x m t = t := rtg_out (Or.inl (by simp only [mb]; omega))
theorem rtg_high {x m t : Nat} (hx : x < 2) (h : 30 ≤ t) : rtg x m t = t := rtg_out (Or.inr (by simp only [mb, cap]; omega))
theorem rtg_lt {x m t n : Nat} (hx : x < 2) (hm : m < cap x) (h : t < 30 + 2 * n) : rtg x m t < 30 + 2 * n := by
  unfold rtg
  split
  · rename_i q
    have := rot_lt hm (show t - mb x < cap x by omega)
    simp only [mb, cap] at *
    omega
  · exact h
theorem rtg_inj {x m t t' : Nat} (hm : m < cap x) (h : rtg x m t = rtg x m t') : t = t' := by
  unfold rtg at h
  by_cases c : mb x ≤ t ∧ t < mb x + cap x
  · by_cases c' : mb x ≤ t' ∧ t' < mb x + cap x
    · rw [if_pos c, if_pos c'] at h
      have := rot_inj (m := m) (i := t - mb x) (j := t' - mb x) (by omega)
      omega
    · rw [if_pos c, if_neg c'] at h
      have := rot_lt hm (show t - mb x < cap x by omega)
      omega
  · by_cases c' : mb x ≤ t' ∧ t' < mb x + cap x
    · rw [if_neg c, if_pos c'] at h
      have := rot_lt hm (show t' - mb x < cap x by omega)
      omega
    · rw [if_neg c, if_neg c'] at h
      exact h
def G1.tk (G : G1) (x m : Nat) : G1 := (va_up G.1 (2 + x) m, G.2.1, fun t j => if 10 + 10 * x ≤ t ∧ t ≤ 15 + 10 * x then G.T t (rot m j) else G.T t j, G.2.2.2)
theorem tk_T (G : G1) (x m t : Nat) (h : ¬ (10 + 10 * x ≤ t ∧ t ≤ 15 + 10 * x)) : (G.tk x m).T t = G.T t := funext fun j => if_neg h
theorem tk_Tm (G : G1) (x m t j : Nat) (h : 10 + 10 * x ≤ t ∧ t ≤ 15 + 10 * x) : (G.tk x m).T t j = G.T t (rot m j) := if_pos h
theorem tk_N (G : G1) (x m k : Nat) (h : k ≠ 2 + x) : (G.tk x m).N k = G.N k := va_up_ne _ _ h
theorem tk_Nx (G : G1) (x m : Nat) : (G.tk x m).N (2 + x) = m := va_up_self _ _ _
theorem R1.tko {cI cR cM : ClassId} {M : Mem} {ad : Nat → Nat} {G : G1} (h : R1 cI cR cM M ad G) (x m : Nat) (hx : x < 2) (hm : m < cap x) {g' : Nat → Option Nat}
    (h1 : ∀ j, j < m → g' j = if j + 1 < cap x then some (ad (mb x + (j + 1))) else none) (h2 : g' m = if 0 < cap x then some (ad (mb x + 0)) else none) (h3 : ∀ j, m < j → g' j = if j < cap x then some (ad (mb x + j)) else none) :
    R1 cI cR cM (mset (mset M (ad (6 + 2 * x)) (ob 0 [.ref (ad (7 + 2 * x)), .int (nI m)])) (ad (7 + 2 * x)) (aQ cM (cap x) g')) (fun t => ad (rtg x m t)) (G.tk x m) := by
  have hg : g' = fun j => if j < cap x then some (ad (rtg x m (mb x + j))) else none := by
    funext j
    by_cases c : j < cap x
    · rw [if_pos c, rtg_in c]
      by_cases c1 : j < m
      · rw [h1 j c1, if_pos (by omega), rot_low c1]
      · by_cases c2 : j = m
        · subst c2; rw [h2, if_pos (by omega), rot_m]
        · rw [h3 j (by omega), if_pos c]
          unfold rot
          rw [if_neg c1, if_neg c2]
    · rw [if_neg c, h3 j (by omega), if_neg c]
  subst hg
  generalize hM2 : mset (mset M (ad (6 + 2 * x)) (ob 0 [.ref (ad (7 + 2 * x)), .int (nI m)])) (ad (7 + 2 * x)) (aQ cM (cap x) (fun j => if j < cap x then some (ad (rtg x m (mb x + j))) else none)) = M2
  have hk : ∀ s, s < 30 + 2 * G.N 0 → s ≠ 6 + 2 * x → s ≠ 7 + 2 * x → M2 (ad s) = M (ad s) := fun s hs n1 n2 => by
    rw [← hM2, mset_ne (h.inj hs (by omega) n2), mset_ne (h.inj hs (by omega) n1)]
  have n0 : (G.tk x m).N 0 = G.N 0 := tk_N G x m 0 (by omega)
  have n1 : (G.tk x m).N 1 = G.N 1 := tk_N G x m 1 (by omega)
  have n4 : (G.tk x m).N 4 = G.N 4 := tk_N G x m 4 (by omega)
  have tl : ∀ t, t < 10 → (G.tk x m).T t = G.T t := fun t ht => tk_T G x m t (by omega)
  have al : ∀ t, t < 10 → ad (rtg x m t) = ad t := fun t ht => by rw [rtg_low ht]
  have ah : ∀ t, 30 ≤ t → ad (rtg x m t) = ad t := fun t ht => by rw [rtg_high hx ht]
  refine ⟨?_, ?_, ?_, ?_, ?_, ?_, ?_, ?_, ?_, ?_, ?_, ?_⟩
  · intro t t' ht ht' e
    rw [n0] at ht ht'
    exact rtg_inj hm (h.1 _ _ (rtg_lt hx hm ht) (rtg_lt hx hm ht') e)
  · show M2 (ad (rtg x m 0)) = some (ob 4 (bf (fun t => ad (rtg x m t)) (G.tk x m)))
    rw [al 0 (by omega), hk 0 (by omega) (by omega) (by omega), h.o]
    simp only [bf]
    rw [al 1 (by omega), al 5 (by omega), al 6 (by omega), al 8 (by omega), n0]
    rfl
  · show M2 (ad (rtg x m 1)) = _
    rw [al 1 (by omega), hk 1 (by omega) (by omega) (by omega), h.st]
    simp only
    rw [al 2 (by omega), al 3 (by omega), al 4 (by omega), n4, n1]
  · show M2 (ad (rtg x m 2)) = _
    rw [al 2 (by omega), hk 2 (by omega) (by omega) (by omega), h.dk, tl 0 (by omega)]
  · show M2 (ad (rtg x m 3)) = _
    rw [al 3 (by omega), hk 3 (by omega) (by omega) (by omega), h.cb, tl 1 (by omega), n4]
  · show M2 (ad (rtg x m 4)) = _
    rw [al 4 (by omega), hk 4 (by omega) (by omega) (by omega), h.cv, tl 2 (by omega), n4]
  · show M2 (ad (rtg x m 5)) = some (aQ cR 120 (fun i => if i < (G.tk x m).N 0 then some (ad (rtg x m (30 + 2 * i))) else none))
    rw [al 5 (by omega), hk 5 (by omega) (by omega) (by omega), h.rs, n0]
    congr 2
    congr 6
    funext i
    rw [ah (30 + 2 * i) (by omega)]
  · intro y hy
    show M2 (ad (rtg x m (6 + 2 * y))) = some (ob 0 [.ref (ad (rtg x m (7 + 2 * y))), .int (nI ((G.tk x m).N (2 + y)))])
    rw [al (6 + 2 * y) (by omega), al (7 + 2 * y) (by omega)]
    by_cases c : y = x
    · subst c
      rw [← hM2, mset_ne (h.inj (by omega) (by omega) (by omega)), mset_self, tk_Nx]
    · rw [hk _ (by omega) (by omega) (by omega), h.ln y hy, tk_N G x m (2 + y) (by omega)]
  · intro y hy
    show M2 (ad (rtg x m (7 + 2 * y))) = some (aQ cM (cap y) (fun j => if j < cap y then some (ad (rtg x m (mb y + j))) else none))
    rw [al (7 + 2 * y) (by omega)]
    by_cases c : y = x
    · subst c
      rw [← hM2, mset_self]
    · rw [hk _ (by omega) (by omega) (by omega), h.sl y hy]
      congr 2
      congr 6
      funext j
      by_cases c2 : j < cap y
      · rw [if_pos c2, if_pos c2, rtg_out (by simp only [mb, cap] at *; omega)]
      · rw [if_neg c2, if_neg c2]
  · intro y j hy hj
    show M2 (ad (rtg x m (mb y + j))) = some (ob 1 (mf (G.tk x m) y j))
    by_cases c : y = x
    · subst c
      have hr := rot_lt hm hj
      rw [rtg_in hj, hk _ (by simp only [mb, cap] at *; omega) (by simp only [mb]; omega) (by simp only [mb]; omega), h.ms y _ hy hr]
      simp only [mf]
      rw [tk_Tm G y m _ j (by omega), tk_Tm G y m _ j (by omega), tk_Tm G y m _ j (by omega), tk_Tm G y m _ j (by omega), tk_Tm G y m _ j (by omega), tk_Tm G y m _ j (by omega)]
    · rw [rtg_out (by simp only [mb, cap] at *; omega), hk _ (by simp only [mb, cap] at *; omega) (by simp only [mb]; omega) (by simp only [mb]; omega), h.ms y j hy hj]
      simp only [mf]
      rw [tk_T G x m _ (by omega), tk_T G x m _ (by omega), tk_T G x m _ (by omega), tk_T G x m _ (by omega), tk_T G x m _ (by omega), tk_T G x m _ (by omega)]
  · intro i hi
    rw [n0] at hi
    show M2 (ad (rtg x m (30 + 2 * i))) = some (ob 2 (rf (fun t => ad (rtg x m t)) (G.tk x m) i))
    rw [ah _ (by omega), hk _ (by omega) (by omega) (by omega), h.rq i hi]
    simp only [rf]
    rw [ah _ (by omega), tl 3 (by omega), tl 4 (by omega), tl 5 (by omega), tl 6 (by omega), tl 7 (by omega)]
  · intro i hi
    rw [n0] at hi
    show M2 (ad (rtg x m (31 + 2 * i))) = some (aI cI (rlen (G.tk x m) i) (G.R i))
    rw [ah _ (by omega), hk _ (by omega) (by omega) (by omega), h.rr i hi]
    simp only [rlen]
    rw [tl 3 (by omega), tl 5 (by omega)]
/-- takeOldest in the class's words -/
theorem R1.tko2 {cI cR cM : ClassId} {M : Mem} {ad : Nat → Nat} {G : G1} (h : R1 cI cR cM M ad G) (x m : Nat) (hx : x < 2) (hm : m < cap x) {g' : Nat → Option Nat}
    (h1 : ∀ j, j < m → g' j = if j + 1 < cap x then some (ad (mb x + (j + 1))) else none) (h2 : g' m = if 0 < cap x then some (ad (mb x + 0)) else none) (h3 : ∀ j, m < j → g' j = if j < cap x then some (ad (mb x + j)) else none) :
    ∃ ad2 : Nat → Nat, ad2 0 = ad 0 ∧ ad2 (mb x + m) = ad (mb x + 0) ∧ R1 cI cR cM (mset (mset M (ad (6 + 2 * x)) (ob 0 [.ref (ad (7 + 2 * x)), .int (nI m)])) (ad (7 + 2 * x)) (aQ cM (cap x) g')) ad2 (G.tk x m) :=
  ⟨fun t => ad (rtg x m t), by show ad (rtg x m 0) = _; rw [rtg_low (by omega)], by show ad (rtg x m (mb x + m)) = _; rw [rtg_in hm, rot_m], h.tko x m hx hm h1 h2 h3⟩
