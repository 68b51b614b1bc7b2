/-! pure: the store of the class -/
def shf (f : Nat → Int32) (m : Nat) : Nat → Int32 := fun j => if j < m then f (j + 1) else f j
theorem shf_0 (f : Nat → Int32) : shf f 0 = f := by funext j; simp [shf]
theorem shf_s (f : Nat → Int32) (i : Nat) : upd (shf f i) i (shf f i (i + 1)) = shf f (i + 1) := by
  funext j
  by_cases h : j = i
  · subst h
    rw [pk_us]
    simp only [shf]
    rw [if_neg (by omega), if_pos (by omega)]
  · rw [pk_un h]
    simp only [shf]
    by_cases h2 : j < i
    · rw [if_pos h2, if_pos (by omega)]
    · rw [if_neg h2, if_neg (by omega)]
/-- the least place below n at which f has b; n where there is none -/
def plc (f : Nat → Int32) (b : Int32) : Nat → Nat
  | 0 => 0
  | n + 1 => if plc f b n < n then plc f b n else if f n = b then n else n + 1
theorem plc_le (f : Nat → Int32) (b : Int32) : ∀ n, plc f b n ≤ n
  | 0 => Nat.le_refl 0
  | n + 1 => by
    have := plc_le f b n
    unfold plc
    split
    · omega
    · split <;> omega
theorem plc_of {f : Nat → Int32} {b : Int32} {p : Nat} (hp : f p = b) (hq : ∀ q, q < p → f q ≠ b) : ∀ n, p < n → plc f b n = p
  | 0, h => absurd h (Nat.not_lt_zero p)
  | n + 1, h => by
    unfold plc
    by_cases c : p < n
    · rw [plc_of hp hq n c, if_pos c]
    · have e : p = n := by omega
      subst e
      have hn : plc f b p = p := by
        have : ∀ m, m ≤ p → plc f b m = m := by
          intro m
          induction m with
          | zero => intro _; rfl
          | succ m ih =>
            intro hm
            unfold plc
            rw [ih (by omega), if_neg (by omega), if_neg (hq m (by omega))]
        exact this p (Nat.le_refl p)
      rw [hn, if_neg (by omega), if_pos hp]
theorem plc_no {f : Nat → Int32} {b : Int32} : ∀ n, (∀ q, q < n → f q ≠ b) → plc f b n = n
  | 0, _ => rfl
  | n + 1, h => by
    unfold plc
    rw [plc_no n (fun q hq => h q (by omega)), if_neg (by omega), if_neg (h n (by omega))]
theorem plc_at {f : Nat → Int32} {b : Int32} {n : Nat} (h : plc f b n < n) : f (plc f b n) = b := by
  induction n with
  | zero => exact absurd h (Nat.not_lt_zero _)
  | succ n ih =>
    unfold plc at h ⊢
    split
    · exact ih (by assumption)
    · split
      · assumption
      · rename_i h1 h2
        rw [if_neg h1, if_neg h2] at h
        omega
def G1.wb (G : G1) : G1 := if G.N 1 = 0 then G else (((G.sT 0 (upd (G.T 0) (G.T 1 0).toNatClampNeg (G.T 2 0))).sN 1 (G.N 1 - 1)).sT 1 (shf (G.T 1) (G.N 1 - 1))).sT 2 (shf (G.T 2) (G.N 1 - 1))
def G1.wbn (G : G1) : Nat → G1
  | 0 => G
  | n + 1 => (G.wbn n).wb
def G1.pt (G : G1) (b v : Int32) : G1 :=
  if plc (G.T 1) b (G.N 1) < G.N 1 then G.sT 2 (upd (G.T 2) (plc (G.T 1) b (G.N 1)) v)
  else if G.N 1 + 1 ≤ G.N 4 then ((G.sT 1 (upd (G.T 1) (G.N 1) b)).sT 2 (upd (G.T 2) (G.N 1) v)).sN 1 (G.N 1 + 1)
  else (((G.sT 1 (upd (G.T 1) (G.N 1) b)).sT 2 (upd (G.T 2) (G.N 1) v)).sN 1 (G.N 1 + 1)).wb
def G1.pv (G : G1) (b : Nat) : Int32 := if plc (G.T 1) (nI b) (G.N 1) < G.N 1 then G.T 2 (plc (G.T 1) (nI b) (G.N 1)) else G.T 0 b
theorem G1.sT_swap (G : G1) (x y x' : Nat → Int32) : ((G.sT 1 x).sT 2 y).sT 1 x' = (G.sT 1 x').sT 2 y := by
  have : va_up (va_up (va_up G.2.2.1 1 x) 2 y) 1 x' = va_up (va_up G.2.2.1 1 x') 2 y := by
    funext t
    by_cases h1 : t = 1
    · subst h1; rfl
    · by_cases h2 : t = 2
      · subst h2; rfl
      · simp [va_up, h1, h2]
  exact congrArg (fun z => ((G.1, G.2.1, z, G.2.2.2) : G1)) this
theorem G1.sT_same (G : G1) (k : Nat) (y y' : Nat → Int32) : (G.sT k y).sT k y' = G.sT k y' := by
  have : va_up (va_up G.2.2.1 k y) k y' = va_up G.2.2.1 k y' := bx_uu _ _ _ _
  exact congrArg (fun z => ((G.1, G.2.1, z, G.2.2.2) : G1)) this
theorem G1.sT_id (G : G1) (k : Nat) : G.sT k (G.T k) = G := by
  have : va_up G.2.2.1 k (G.T k) = G.2.2.1 := by
    funext t
    by_cases h : t = k
    · subst h; rw [va_up_self]
    · rw [va_up_ne _ _ h]
  exact congrArg (fun z => ((G.1, G.2.1, z, G.2.2.2) : G1)) this
/-- the cache's blocks are blocks, and there is place -/
def cOK (G : G1) : Prop := G.N 4 ≤ 6 ∧ G.N 1 ≤ G.N 4 + 1 ∧ ∀ j, j < G.N 1 → ∃ b, b < 16 ∧ G.T 1 j = nI b
