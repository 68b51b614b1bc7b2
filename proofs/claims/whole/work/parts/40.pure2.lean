/-! pure: the class's session, lines, requests -/
def lx (u : Int32) : Nat := if u = 0 then 1 else 0
theorem lx_lt (u : Int32) : lx u < 2 := by unfold lx; split <;> omega
def cnt (f : Nat → Int32) (b : Int32) : Nat → Nat
  | 0 => 0
  | n + 1 => cnt f b n + (if f n = b then 1 else 0)
theorem cnt_le (f : Nat → Int32) (b : Int32) : ∀ n, cnt f b n ≤ n
  | 0 => Nat.le_refl 0
  | n + 1 => by
    have := cnt_le f b n
    unfold cnt
    split <;> omega
def G1.bg (G : G1) : G1 := ((((G.sI 1 1).sI 2 (G.I 2 + 1)).sI 3 0).sI 4 0).sI 5 (G.I 0)
def G1.sRR (G : G1) (r : Nat → Nat → Int32) : G1 := (G.1, G.2.1, G.2.2.1, r)
theorem G1.sRR_sT (G : G1) (k : Nat) (a b : Nat → Int32) (r : Nat → Nat → Int32) : ((G.sT k a).sRR r).sT k b = (G.sT k b).sRR r := by
  have : va_up (va_up G.2.2.1 k a) k b = va_up G.2.2.1 k b := bx_uu _ _ _ _
  exact congrArg (fun z => ((G.1, G.2.1, z, r) : G1)) this
theorem G1.sRR_id (G : G1) : G.sRR G.R = G := rfl
def rop (f : Nat → Int32) (i : Nat) : Nat → Int32 := fun j => if j < i ∧ f j = 1 then 0 else f j
theorem rop_0 (f : Nat → Int32) : rop f 0 = f := by funext j; simp [rop]
theorem rop_t (f : Nat → Int32) (i : Nat) (h : f i = 1) : upd (rop f i) i 0 = rop f (i + 1) := by
  funext j
  by_cases c : j = i
  · subst c
    rw [pk_us]
    simp [rop, h]
  · rw [pk_un c]
    simp only [rop]
    by_cases c2 : j < i ∧ f j = 1
    · rw [if_pos c2, if_pos ⟨by omega, c2.2⟩]
    · rw [if_neg c2, if_neg (fun z => c2 ⟨by omega, z.2⟩)]
theorem rop_f (f : Nat → Int32) (i : Nat) (h : ¬ f i = 1) : rop f i = rop f (i + 1) := by
  funext j
  simp only [rop]
  by_cases c2 : j < i ∧ f j = 1
  · rw [if_pos c2, if_pos ⟨by omega, c2.2⟩]
  · rw [if_neg c2, if_neg (fun z => by
      by_cases c : j = i
      · subst c; exact h z.2
      · exact c2 ⟨by omega, z.2⟩)]
theorem rop_at (f : Nat → Int32) (i : Nat) : rop f i i = f i := by simp [rop]
def G1.cl2 (G : G1) : G1 := (((((G.sN 2 0).sN 3 0).sI 1 0).sI 3 0).sI 4 0).sI 5 0
def G1.bk (G : G1) (r : Nat → Nat → Int32) : G1 := (G.cl2.sT 7 (rop (G.T 7) (G.N 0))).sRR r
abbrev v6 (a b c d e f : Int32) : Nat → Int32 := fun k => match k with
  | 0 => a
  | 1 => b
  | 2 => c
  | 3 => d
  | 4 => e
  | _ => f
def G1.sM (G : G1) (x j : Nat) (v : Nat → Int32) : G1 := (G.1, G.2.1, fun t i => if 10 + 10 * x ≤ t ∧ t ≤ 15 + 10 * x ∧ i = j then v (t - (10 + 10 * x)) else G.T t i, G.2.2.2)
theorem sM_at (G : G1) (x j : Nat) (v : Nat → Int32) (k : Nat) (hk : k < 6) : (G.sM x j v).T (10 + k + 10 * x) j = v k := by
  show (if 10 + 10 * x ≤ 10 + k + 10 * x ∧ 10 + k + 10 * x ≤ 15 + 10 * x ∧ j = j then v (10 + k + 10 * x - (10 + 10 * x)) else _) = _
  rw [if_pos ⟨by omega, by omega, rfl⟩]
  congr 1
  omega
theorem sM_ne (G : G1) (x j : Nat) (v : Nat → Int32) (t i : Nat) (h : ¬ (10 + 10 * x ≤ t ∧ t ≤ 15 + 10 * x ∧ i = j)) : (G.sM x j v).T t i = G.T t i := if_neg h
theorem sM_low (G : G1) (x j : Nat) (v : Nat → Int32) (t : Nat) (h : t < 10) : (G.sM x j v).T t = G.T t := funext fun i => sM_ne G x j v t i (by omega)
theorem mf_sM (G : G1) (x j : Nat) (v : Nat → Int32) : mf (G.sM x j v) x j = [.int (v 0), .int (v 1), .int (v 2), .int (v 3), .int (v 4), .int (v 5)] := by
  have := sM_at G x j v
  simp only [mf]
  rw [this 0 (by omega), this 1 (by omega), this 2 (by omega), this 3 (by omega), this 4 (by omega), this 5 (by omega)]
def G1.snd (G : G1) (x : Nat) (a b c d e : Int32) : G1 := (G.sN (2 + x) (G.N (2 + x) + 1)).sM x (G.N (2 + x)) (v6 a b c d e 0)
theorem R1.pM {cI cR cM : ClassId} {M : Mem} {ad : Nat → Nat} {G : G1} (h : R1 cI cR cM M ad G) (x j : Nat) (hx : x < 2) (hj : j < cap x) (v : Nat → Int32) : R1 cI cR cM (mset M (ad (mb x + j)) (ob 1 [.int (v 0), .int (v 1), .int (v 2), .int (v 3), .int (v 4), .int (v 5)])) ad (G.sM x j v) := by
  have := h.pmsg x j hx hj (G' := G.sM x j v) rfl rfl rfl (fun t i hti => sM_ne G x j v t i hti)
  rw [mf_sM] at this
  exact this
