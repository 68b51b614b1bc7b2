theorem wb_N1 (G : G1) : G.wb.N 1 = G.N 1 - 1 := by
  unfold G1.wb
  split
  · omega
  · rfl
theorem wb_N (G : G1) (k : Nat) (hk : k ≠ 1) : G.wb.N k = G.N k := by
  unfold G1.wb
  split
  · rfl
  · exact va_up_ne _ _ hk
theorem wb_I (G : G1) : G.wb.I = G.I := by
  unfold G1.wb
  split <;> rfl
theorem wb_R (G : G1) : G.wb.R = G.R := by
  unfold G1.wb
  split <;> rfl
theorem wb_T (G : G1) (k : Nat) (hk : 3 ≤ k) : G.wb.T k = G.T k := by
  unfold G1.wb
  split
  · rfl
  · show va_up (va_up (va_up G.2.2.1 0 _) 1 _) 2 _ k = _
    rw [va_up_ne _ _ (by omega), va_up_ne _ _ (by omega), va_up_ne _ _ (by omega)]
theorem wb_T1 (G : G1) (h : 0 < G.N 1) : G.wb.T 1 = shf (G.T 1) (G.N 1 - 1) := by
  unfold G1.wb
  rw [if_neg (by omega)]
  rfl
theorem wb_T2 (G : G1) (h : 0 < G.N 1) : G.wb.T 2 = shf (G.T 2) (G.N 1 - 1) := by
  unfold G1.wb
  rw [if_neg (by omega)]
  rfl
theorem wb_T0 (G : G1) (h : 0 < G.N 1) : G.wb.T 0 = upd (G.T 0) (G.T 1 0).toNatClampNeg (G.T 2 0) := by
  unfold G1.wb
  rw [if_neg (by omega)]
  rfl
theorem wb_cOK {G : G1} (h : cOK G) : cOK G.wb := by
  refine ⟨by rw [wb_N G 4 (by decide)]; exact h.1, by rw [wb_N1, wb_N G 4 (by decide)]; have := h.2.1; omega, fun j hj => ?_⟩
  rw [wb_N1] at hj
  rw [wb_T1 G (by omega)]
  simp only [shf]
  rw [if_pos hj]
  exact h.2.2 (j + 1) (by omega)
theorem wbn_cOK {G : G1} (h : cOK G) : ∀ n, cOK (G.wbn n)
  | 0 => h
  | n + 1 => wb_cOK (wbn_cOK h n)
theorem wbn_N1 (G : G1) : ∀ n, (G.wbn n).N 1 = G.N 1 - n
  | 0 => rfl
  | n + 1 => by
    show (G.wbn n).wb.N 1 = _
    rw [wb_N1, wbn_N1 G n]
    omega
