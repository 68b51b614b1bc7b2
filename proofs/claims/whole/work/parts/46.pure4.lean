theorem ts_neg {x : Int32} (h : x < 0) : x.toInt < 0 := by
  have := Int32.lt_iff_toInt_lt.mp h
  simpa using this
theorem ts_big {x : Int32} {n : Nat} (h : nI (n + 1) ≤ x) (hn : n + 1 < 2 ^ 31) : (n : Int) < x.toInt := by
  have := Int32.le_iff_toInt_le.mp h
  rw [nI_toInt hn] at this
  omega
def G1.dm (G : G1) (x j : Nat) : G1 := G.sT (15 + 10 * x) (upd (G.T (15 + 10 * x)) j 1)
theorem dm_T (G : G1) (x j t i : Nat) (h : ¬ (t = 15 + 10 * x ∧ i = j)) : (G.dm x j).T t i = G.T t i := by
  show va_up G.2.2.1 (15 + 10 * x) _ t i = _
  by_cases c : t = 15 + 10 * x
  · subst c
    rw [va_up_self, pk_un (fun z => h ⟨rfl, z⟩)]
  · rw [va_up_ne _ _ c]
theorem dm_at (G : G1) (x j : Nat) : (G.dm x j).T (15 + 10 * x) j = 1 := by
  show va_up G.2.2.1 (15 + 10 * x) _ (15 + 10 * x) j = _
  rw [va_up_self, pk_us]
theorem R1.pdm {cI cR cM : ClassId} {M : Mem} {ad : Nat → Nat} {G : G1} (h : R1 cI cR cM M ad G) (x j : Nat) (hx : x < 2) (hj : j < cap x) : R1 cI cR cM (mset M (ad (mb x + j)) (ob 1 [.int (G.T (10 + 10 * x) j), .int (G.T (11 + 10 * x) j), .int (G.T (12 + 10 * x) j), .int (G.T (13 + 10 * x) j), .int (G.T (14 + 10 * x) j), .int 1])) ad (G.dm x j) := by
  have := h.pmsg x j hx hj (G' := G.dm x j) rfl rfl rfl (fun t i hti => dm_T G x j t i (by omega))
  simp only [mf] at this
  rw [dm_T G x j _ j (by omega), dm_T G x j _ j (by omega), dm_T G x j _ j (by omega), dm_T G x j _ j (by omega), dm_T G x j _ j (by omega), dm_at] at this
  exact this
def fldA (G : G1) (x j : Nat) (f : Int32) : Int32 :=
  if f = 0 then G.T (10 + 10 * x) j else if f = 1 then G.T (11 + 10 * x) j else if f = 2 then G.T (12 + 10 * x) j else if f = 3 then G.T (14 + 10 * x) j else if f = 4 then (if G.T (15 + 10 * x) j = 0 then 0 else 1) else -1
theorem fldA_out (G : G1) (x j : Nat) {f : Int32} (h : f < 0 ∨ nI 5 ≤ f) : fldA G x j f = -1 := by
  unfold fldA
  rw [if_neg (fun e => by subst e; revert h; decide), if_neg (fun e => by subst e; revert h; decide), if_neg (fun e => by subst e; revert h; decide), if_neg (fun e => by subst e; revert h; decide), if_neg (fun e => by subst e; revert h; decide)]
/-- send: its answer and the state behind it -/
def G1.sendR (G : G1) : Int32 × G1 :=
  if G.I 1 = 0 then (-4, G) else if plc (G.T 7) 0 (G.N 0) = G.N 0 then (-3, G)
  else if G.I 3 < G.I 5 then (nI (plc (G.T 7) 0 (G.N 0)), ((G.sT 7 (upd (G.T 7) (plc (G.T 7) 0 (G.N 0)) 1)).sI 3 (G.I 3 + 1)).snd 0 (nI (plc (G.T 7) 0 (G.N 0))) 0 0 0 0) else (-2, G)
theorem fin_up (G : G1) (q : Int32) (t : Nat) (ht : t < 20) : (G.fin q).T t = G.T t := funext fun i => sM_ne _ _ _ _ _ _ (by omega)
theorem snd1_up (G : G1) (a b c d e : Int32) (t : Nat) (ht : t < 20) : (G.snd 1 a b c d e).T t = G.T t := funext fun i => sM_ne _ _ _ _ _ _ (by omega)
theorem snd0_down (G : G1) (a b c d e : Int32) (t : Nat) (ht : 16 ≤ t) : (G.snd 0 a b c d e).T t = G.T t := funext fun i => sM_ne _ _ _ _ _ _ (by omega)
theorem rdn_up (G : G1) (q : Int32) (f t : Nat) (ht : t < 20) : ∀ k, (G.rdn q f k).T t = G.T t
  | 0 => rfl
  | k + 1 => by
    show ((G.rdn q f k).snd 1 q 3 _ _ _).T t = _
    rw [snd1_up _ _ _ _ _ _ _ ht, rdn_up G q f t ht k]
theorem wk_up (G : G1) (q : Nat) (p : Int32) (t : Nat) (h3 : 3 ≤ t) (ht : t < 20) : (G.wk q p).T t = G.T t := by
  unfold G1.wk
  split
  · unfold G1.wp
    split
    · rw [fin_up _ _ _ ht, ptn_T _ _ _ _ h3]
    · rw [snd1_up _ _ _ _ _ _ _ ht]
  · split
    · rw [fin_up _ _ _ ht, rdn_up _ _ _ _ ht]
    · rw [fin_up _ _ _ ht, wbn_T _ _ h3]
theorem tki_down (G : G1) (q : Nat) (a b c d : Int32) (t : Nat) (ht : 16 ≤ t) : (G.tki q a b c d).T t = G.T t := by
  simp only [G1.tki]
  split
  · rw [snd0_down _ _ _ _ _ _ _ ht]; rfl
  · split
    · rfl
    · exact va_up_ne _ _ (by omega)
