def G2.asF (G : G2) (q su : Nat) (kd nm : Int32) : G2 := if kd = 2 then G.pst 0 su (nI q) 1 nm 0 0 else G
def G2.pcF (G : G2) (q k : Nat) (kd vl : Int32) : G2 := if kd = 3 then G.sT 9 (upd (G.T 9) (q * 3 + k) vl) else G
theorem nar01 {x : Int32} (h : x = 0 ∨ x = 1) : vp_nar .boolean x = x := by
  rcases h with rfl | rfl <;> decide
theorem G2.ext2 {A B : G2} (h1 : A.I = B.I) (h2 : ∀ t, A.T t = B.T t) : A = B := Prod.ext h1 (funext h2)
theorem shf6_T (G : G2) (b m t : Nat) : (G.shf6 b m).T t = if 10 ≤ t ∧ t ≤ 15 then shb (G.T t) b m else G.T t := by
  unfold G2.shf6
  by_cases h : 10 ≤ t ∧ t ≤ 15
  · rw [if_pos h]
    rcases (show t = 10 ∨ t = 11 ∨ t = 12 ∨ t = 13 ∨ t = 14 ∨ t = 15 by omega) with rfl | rfl | rfl | rfl | rfl | rfl <;> rfl
  · rw [if_neg h]
    rw [sT2_ne _ _ _ _ (by omega), sT2_ne _ _ _ _ (by omega), sT2_ne _ _ _ _ (by omega), sT2_ne _ _ _ _ (by omega), sT2_ne _ _ _ _ (by omega), sT2_ne _ _ _ _ (by omega)]
theorem shf6_s (G : G2) (b i : Nat) : ((((((G.shf6 b i).sT 10 (upd (shb (G.T 10) b i) (b + i) (G.T 10 (b + i + 1)))).sT 11 (upd (shb (G.T 11) b i) (b + i) (G.T 11 (b + i + 1)))).sT 12 (upd (shb (G.T 12) b i) (b + i) (G.T 12 (b + i + 1)))).sT 13 (upd (shb (G.T 13) b i) (b + i) (G.T 13 (b + i + 1)))).sT 14 (upd (shb (G.T 14) b i) (b + i) (G.T 14 (b + i + 1)))).sT 15 (upd (shb (G.T 15) b i) (b + i) (G.T 15 (b + i + 1))) = G.shf6 b (i + 1) := by
  rw [shb_s, shb_s, shb_s, shb_s, shb_s, shb_s]
  refine G2.ext2 rfl (fun t => ?_)
  rw [shf6_T]
  by_cases h : 10 ≤ t ∧ t ≤ 15
  · rw [if_pos h]
    rcases (show t = 10 ∨ t = 11 ∨ t = 12 ∨ t = 13 ∨ t = 14 ∨ t = 15 by omega) with rfl | rfl | rfl | rfl | rfl | rfl <;> rfl
  · rw [if_neg h, sT2_ne _ _ _ _ (by omega), sT2_ne _ _ _ _ (by omega), sT2_ne _ _ _ _ (by omega), sT2_ne _ _ _ _ (by omega), sT2_ne _ _ _ _ (by omega), sT2_ne _ _ _ _ (by omega), shf6_T, if_neg h]
theorem shf6_0 (G : G2) (b : Nat) : G.shf6 b 0 = G := by
  refine G2.ext2 rfl (fun t => ?_)
  rw [shf6_T]
  split
  · rw [shb_0]
  · rfl
def G2.dlv (G : G2) (x m : Nat) : G2 := (G.sT 16 (upd (G.T 16) x (nI m))).shf6 (64 * x) m
theorem dlv_low (G : G2) (x m t : Nat) (ht : t < 10) : (G.dlv x m).T t = G.T t := by
  unfold G2.dlv
  rw [shf6_T, if_neg (by omega), sT2_ne _ _ _ _ (by omega)]
theorem dlv_16 (G : G2) (x m : Nat) : (G.dlv x m).T 16 = upd (G.T 16) x (nI m) := by
  unfold G2.dlv
  rw [shf6_T, if_neg (by omega), sT2_at]
theorem dlv_I (G : G2) (x m : Nat) : (G.dlv x m).I = G.I := rfl
theorem dlv_m (G : G2) (x m t : Nat) (ht : 10 ≤ t ∧ t ≤ 15) : (G.dlv x m).T t = shb (G.T t) (64 * x) m := by
  unfold G2.dlv
  rw [shf6_T, if_pos ht, sT2_ne _ _ _ _ (by omega)]
