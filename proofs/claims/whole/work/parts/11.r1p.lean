section R1P
variable {cI cR cM : ClassId} {M : Mem} {ad : Nat → Nat} {G : G1}
theorem R1.po (h : R1 cI cR cM M ad G) (k : Nat) (v : Int32) : R1 cI cR cM (mset M (ad 0) (ob 4 (bf ad (G.sI k v)))) ad (G.sI k v) :=
  h.put 0 (by omega) rfl (by rw [if_pos rfl]) (by rw [if_neg (by decide)]; exact ⟨rfl, rfl⟩) (by rw [if_neg (by decide)]; rfl) (by rw [if_neg (by decide)]; exact ⟨rfl, rfl⟩) (by rw [if_neg (by decide)]; exact ⟨rfl, rfl⟩) (by decide) (fun x hx => by rw [if_neg (by omega)]; rfl) (fun x hx => by omega) (fun x j hx hj => by rw [if_neg (by simp only [mb]; omega)]; rfl) (fun i hi => by rw [if_neg (by omega)]; rfl) (fun i hi => by rw [if_neg (by omega)]; exact ⟨rfl, rfl⟩)
theorem R1.pcs (h : R1 cI cR cM M ad G) (v : Nat) : R1 cI cR cM (mset M (ad 1) (ob 3 [.int (nI (G.N 4)), .ref (ad 2), .ref (ad 3), .ref (ad 4), .int (nI v)])) ad (G.sN 1 v) :=
  h.put 1 (by omega) rfl (by rw [if_neg (by decide)]; rfl) (by rw [if_pos rfl]; rfl) (by rw [if_neg (by decide)]; rfl) (by rw [if_neg (by decide)]; exact ⟨rfl, rfl⟩) (by rw [if_neg (by decide)]; exact ⟨rfl, rfl⟩) (by decide) (fun x hx => by rw [if_neg (by omega)]; show va_up G.1 1 v (2 + x) = _; rw [va_up_ne _ _ (by omega)]) (fun x hx => by omega) (fun x j hx hj => by rw [if_neg (by simp only [mb]; omega)]; rfl) (fun i hi => by rw [if_neg (by omega)]; rfl) (fun i hi => by rw [if_neg (by omega)]; exact ⟨rfl, rfl⟩)
theorem R1.psz (h : R1 cI cR cM M ad G) (x v : Nat) (hx : x < 2) : R1 cI cR cM (mset M (ad (6 + 2 * x)) (ob 0 [.ref (ad (7 + 2 * x)), .int (nI v)])) ad (G.sN (2 + x) v) := by
  have e0 : ∀ k, k ≠ 2 + x → (G.sN (2 + x) v).N k = G.N k := fun k hk => va_up_ne _ _ hk
  have e1 : (G.sN (2 + x) v).N (2 + x) = v := va_up_self _ _ _
  refine h.put (6 + 2 * x) (by omega) (e0 0 (by omega)) (by rw [if_neg (by omega)]; simp only [bf, e0 0 (by omega)]; rfl) (by rw [if_neg (by omega)]; exact ⟨e0 4 (by omega), e0 1 (by omega)⟩) (by rw [if_neg (by omega)]; rfl) (by rw [if_neg (by omega)]; exact ⟨e0 4 (by omega), rfl⟩) (by rw [if_neg (by omega)]; exact ⟨e0 4 (by omega), rfl⟩) (by omega) (fun y hy => ?_) (fun y hy => by omega) (fun y j hy hj => by rw [if_neg (by simp only [mb]; omega)]; rfl) (fun i hi => by rw [if_neg (by omega)]; rfl) (fun i hi => by rw [if_neg (by omega)]; exact ⟨rfl, rfl⟩)
  by_cases c : y = x
  · subst c
    rw [if_pos rfl, e1]
  · rw [if_neg (by omega)]
    exact e0 _ (by omega)
theorem R1.parr (h : R1 cI cR cM M ad G) (k : Nat) (hk : k < 3) (f : Nat → Int32) : R1 cI cR cM (mset M (ad (2 + k)) (aI cI (if k = 0 then 16 else G.N 4 + 1) f)) ad (G.sT k f) := by
  have e0 : ∀ t, t ≠ k → (G.sT k f).T t = G.T t := fun t ht => va_up_ne _ _ ht
  have e1 : (G.sT k f).T k = f := va_up_self _ _ _
  refine h.put (2 + k) (by omega) rfl (by rw [if_neg (by omega)]; rfl) (by rw [if_neg (by omega)]; exact ⟨rfl, rfl⟩) ?_ ?_ ?_ (by omega) (fun x hx => by rw [if_neg (by omega)]; rfl) (fun x hx => by omega) (fun x j hx hj => by rw [if_neg (by simp only [mb]; omega)]; simp only [mf]; rw [e0 _ (by omega), e0 _ (by omega), e0 _ (by omega), e0 _ (by omega), e0 _ (by omega), e0 _ (by omega)]) (fun i hi => by rw [if_neg (by omega)]; simp only [rf]; rw [e0 _ (by omega), e0 _ (by omega), e0 _ (by omega), e0 _ (by omega), e0 _ (by omega)]) (fun i hi => by rw [if_neg (by omega)]; exact ⟨by simp only [rlen]; rw [e0 _ (by omega), e0 _ (by omega)], rfl⟩)
  · by_cases c : k = 0
    · subst c; rw [if_pos rfl, e1]; rfl
    · rw [if_neg (by omega)]; exact e0 _ (by omega)
  · by_cases c : k = 1
    · subst c; rw [if_pos rfl, e1]; rfl
    · rw [if_neg (by omega)]; exact ⟨rfl, e0 _ (by omega)⟩
  · by_cases c : k = 2
    · subst c; rw [if_pos rfl, e1]; rfl
    · rw [if_neg (by omega)]; exact ⟨rfl, e0 _ (by omega)⟩
theorem R1.pdk (h : R1 cI cR cM M ad G) (f : Nat → Int32) : R1 cI cR cM (mset M (ad 2) (aI cI 16 f)) ad (G.sT 0 f) := h.parr 0 (by decide) f
theorem R1.pcb (h : R1 cI cR cM M ad G) (f : Nat → Int32) : R1 cI cR cM (mset M (ad 3) (aI cI (G.N 4 + 1) f)) ad (G.sT 1 f) := h.parr 1 (by decide) f
theorem R1.pcv (h : R1 cI cR cM M ad G) (f : Nat → Int32) : R1 cI cR cM (mset M (ad 4) (aI cI (G.N 4 + 1) f)) ad (G.sT 2 f) := h.parr 2 (by decide) f
theorem R1.pmsg (h : R1 cI cR cM M ad G) (x j : Nat) (hx : x < 2) (hj : j < cap x) {G' : G1} (hN : G'.N = G.N) (hI : G'.I = G.I) (hR : G'.R = G.R) (hT : ∀ t i, ¬ (10 + 10 * x ≤ t ∧ t ≤ 15 + 10 * x ∧ i = j) → G'.T t i = G.T t i) : R1 cI cR cM (mset M (ad (mb x + j)) (ob 1 (mf G' x j))) ad G' := by
  have eT : ∀ t, t < 10 → G'.T t = G.T t := fun t ht => funext fun i => hT t i (by omega)
  simp only [mb, cap] at *
  refine h.put (10 + 4 * x + j) (by omega) (by rw [hN]) (by rw [if_neg (by omega)]; simp only [bf, hN, hI]) (by rw [if_neg (by omega), hN]; exact ⟨rfl, rfl⟩) (by rw [if_neg (by omega)]; exact eT 0 (by omega)) (by rw [if_neg (by omega), hN]; exact ⟨rfl, eT 1 (by omega)⟩) (by rw [if_neg (by omega), hN]; exact ⟨rfl, eT 2 (by omega)⟩) (by omega) (fun y hy => by rw [if_neg (by omega), hN]) (fun y hy => by omega) (fun y i hy hi => ?_) (fun i hi => by rw [if_neg (by omega)]; simp only [rf]; rw [eT 3 (by omega), eT 4 (by omega), eT 5 (by omega), eT 6 (by omega), eT 7 (by omega)]) (fun i hi => by rw [if_neg (by omega), hR]; exact ⟨by simp only [rlen]; rw [eT 3 (by omega), eT 5 (by omega)], rfl⟩)
  simp only [mb, cap] at *
  by_cases c : 10 + 4 * x + j = 10 + 4 * y + i
  · have : x = y := by omega
    subst this
    have : j = i := by omega
    subst this
    rw [if_pos rfl]
  · rw [if_neg c]
    simp only [mf]
    rw [hT _ i (by omega), hT _ i (by omega), hT _ i (by omega), hT _ i (by omega), hT _ i (by omega), hT _ i (by omega)]
theorem R1.preq (h : R1 cI cR cM M ad G) (i : Nat) (hi : i < G.N 0) (v : Int32) : R1 cI cR cM (mset M (ad (30 + 2 * i)) (ob 2 [.int (G.T 3 i), .int (G.T 4 i), .int (G.T 5 i), .int (G.T 6 i), .ref (ad (31 + 2 * i)), .int v])) ad (G.sT 7 (upd (G.T 7) i v)) := by
  have e0 : ∀ t, t ≠ 7 → (G.sT 7 (upd (G.T 7) i v)).T t = G.T t := fun t ht => va_up_ne _ _ ht
  have e1 : (G.sT 7 (upd (G.T 7) i v)).T 7 = upd (G.T 7) i v := va_up_self G.2.2.1 7 (upd (G.T 7) i v)
  refine h.put (30 + 2 * i) (by omega) rfl (by rw [if_neg (by omega)]; rfl) (by rw [if_neg (by omega)]; exact ⟨rfl, rfl⟩) (by rw [if_neg (by omega)]; rfl) (by rw [if_neg (by omega)]; exact ⟨rfl, rfl⟩) (by rw [if_neg (by omega)]; exact ⟨rfl, rfl⟩) (by omega) (fun x hx => by rw [if_neg (by omega)]; rfl) (fun x hx => by omega) (fun x j hx hj => by rw [if_neg (by simp only [mb, cap] at *; omega)]; simp only [mf]; rw [e0 _ (by omega), e0 _ (by omega), e0 _ (by omega), e0 _ (by omega), e0 _ (by omega), e0 _ (by omega)]) (fun q hq => ?_) (fun q hq => by rw [if_neg (by omega)]; exact ⟨by simp only [rlen]; rw [e0 _ (by omega), e0 _ (by omega)], rfl⟩)
  simp only [rf]
  rw [e0 3 (by omega), e0 4 (by omega), e0 5 (by omega), e0 6 (by omega), e1]
  by_cases c : q = i
  · subst c
    rw [if_pos rfl, pk_us]
  · rw [if_neg (by omega), pk_un c]
theorem R1.prr (h : R1 cI cR cM M ad G) (i : Nat) (hi : i < G.N 0) (f : Nat → Int32) : R1 cI cR cM (mset M (ad (31 + 2 * i)) (aI cI (rlen G i) f)) ad (G.sR i f) := by
  refine h.put (31 + 2 * i) (by omega) rfl (by rw [if_neg (by omega)]; rfl) (by rw [if_neg (by omega)]; exact ⟨rfl, rfl⟩) (by rw [if_neg (by omega)]; rfl) (by rw [if_neg (by omega)]; exact ⟨rfl, rfl⟩) (by rw [if_neg (by omega)]; exact ⟨rfl, rfl⟩) (by omega) (fun x hx => by rw [if_neg (by omega)]; rfl) (fun x hx => by omega) (fun x j hx hj => by rw [if_neg (by simp only [mb, cap] at *; omega)]; rfl) (fun q hq => by rw [if_neg (by omega)]; rfl) (fun q hq => ?_)
  by_cases c : q = i
  · subst c
    rw [if_pos rfl]
    show _ = aI cI _ (va_up G.2.2.2 q f q)
    rw [va_up_self]
    rfl
  · rw [if_neg (by omega)]
    exact ⟨rfl, va_up_ne _ _ c⟩
end R1P
