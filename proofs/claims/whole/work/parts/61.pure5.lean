/-! pure: the reference's moves -/
def G2.pst (G : G2) (x sz : Nat) (a b c d e : Int32) : G2 := ((((((G.sT 10 (upd (G.T 10) (64 * x + sz) a)).sT 11 (upd (G.T 11) (64 * x + sz) b)).sT 12 (upd (G.T 12) (64 * x + sz) c)).sT 13 (upd (G.T 13) (64 * x + sz) d)).sT 14 (upd (G.T 14) (64 * x + sz) e)).sT 15 (upd (G.T 15) (64 * x + sz) 0)).sT 16 (upd (G.T 16) x (nI (sz + 1)))
def G2.fin (G : G2) (sz : Nat) (q : Int32) : G2 := (G.sI 6 (G.I 6 + 1)).pst 1 sz q 4 0 0 (G.I 6 + 1 + G.I 0)
def G2.vo (G : G2) (b : Nat) : Int32 := if G.T 3 b ≤ 0 then G.T 1 b else G.T 2 b
def G2.ptN (G : G2) (f : Nat) (v : Int32) : Nat → G2 → Prop
  | 0, G' => G' = G
  | k + 1, G' => ∃ G'', G.ptN f v k G'' ∧ G''.ptR (f + k) (v + nI k) G'
def G2.flN (G : G2) : Nat → G2 → Prop
  | 0, G' => G' = G
  | k + 1, G' => ∃ (G'' : G2) (r : Int32), G.flN k G'' ∧ G''.flR r G'
def G2.rdN (G : G2) (q : Int32) (f sz : Nat) : Nat → G2
  | 0 => G
  | k + 1 => (G.rdN q f sz k).pst 1 (sz + k) q 3 (nI k) (G.vo (f + k)) (G.I 6 + G.I 0)
theorem G2.sT_same (G : G2) (k : Nat) (y y' : Nat → Int32) : (G.sT k y).sT k y' = G.sT k y' := by
  have : va_up (va_up G.2 k y) k y' = va_up G.2 k y' := bx_uu _ _ _ _
  exact congrArg (fun z => ((G.1, z) : G2)) this
theorem G2.sT_id (G : G2) (k : Nat) : G.sT k (G.T k) = G := by
  have : va_up G.2 k (G.T k) = G.2 := by
    funext t
    by_cases h : t = k
    · subst h; rw [va_up_self]
    · rw [va_up_ne _ _ h]
  exact congrArg (fun z => ((G.1, z) : G2)) this
theorem sT2_ne (G : G2) (k t : Nat) (f : Nat → Int32) (h : t ≠ k) : (G.sT k f).T t = G.T t := va_up_ne _ _ h
theorem sT2_at (G : G2) (k : Nat) (f : Nat → Int32) : (G.sT k f).T k = f := va_up_self G.2 k f
theorem pst_low (G : G2) (x sz : Nat) (a b c d e : Int32) (t : Nat) (ht : t < 10) : (G.pst x sz a b c d e).T t = G.T t := by
  unfold G2.pst
  rw [sT2_ne _ _ _ _ (by omega), sT2_ne _ _ _ _ (by omega), sT2_ne _ _ _ _ (by omega), sT2_ne _ _ _ _ (by omega), sT2_ne _ _ _ _ (by omega), sT2_ne _ _ _ _ (by omega), sT2_ne _ _ _ _ (by omega)]
theorem pst_I (G : G2) (x sz : Nat) (a b c d e : Int32) : (G.pst x sz a b c d e).I = G.I := rfl
theorem pst_16 (G : G2) (x sz : Nat) (a b c d e : Int32) : (G.pst x sz a b c d e).T 16 = upd (G.T 16) x (nI (sz + 1)) := sT2_at _ _ _
theorem rdN_low (G : G2) (q : Int32) (f sz t : Nat) (ht : t < 10) : ∀ k, (G.rdN q f sz k).T t = G.T t
  | 0 => rfl
  | k + 1 => by
    show ((G.rdN q f sz k).pst 1 (sz + k) q 3 _ _ _).T t = _
    rw [pst_low _ _ _ _ _ _ _ _ _ ht, rdN_low G q f sz t ht k]
theorem rdN_I (G : G2) (q : Int32) (f sz : Nat) : ∀ k, (G.rdN q f sz k).I = G.I
  | 0 => rfl
  | k + 1 => rdN_I G q f sz k
theorem rdN_16 (G : G2) (q : Int32) (f sz : Nat) (h : G.T 16 1 = nI sz) : ∀ k, (G.rdN q f sz k).T 16 1 = nI (sz + k)
  | 0 => h
  | k + 1 => by
    show ((G.rdN q f sz k).pst 1 (sz + k) q 3 _ _ _).T 16 1 = _
    rw [pst_16, pk_us]
    rfl
theorem rdN_vo (G : G2) (q : Int32) (f sz b k : Nat) : (G.rdN q f sz k).vo b = G.vo b := by
  unfold G2.vo
  rw [rdN_low _ _ _ _ 3 (by omega), rdN_low _ _ _ _ 1 (by omega), rdN_low _ _ _ _ 2 (by omega)]
/-- what a flush leaves as it is -/
theorem flR_same {G G' : G2} {r : Int32} (h : G.flR r G') : G'.I = G.I ∧ ∀ t, t ≠ 1 → t ≠ 3 → G'.T t = G.T t := by
  rcases h with ⟨b, _, _, _, rfl⟩ | ⟨_, _, rfl⟩
  · exact ⟨rfl, fun t h1 h3 => by show ((G.sT 1 _).sT 3 _).T t = _; rw [sT2_ne _ _ _ _ h3, sT2_ne _ _ _ _ h1]⟩
  · exact ⟨rfl, fun t _ _ => rfl⟩
theorem flN_same {G : G2} : ∀ {k : Nat} {G' : G2}, G.flN k G' → G'.I = G.I ∧ ∀ t, t ≠ 1 → t ≠ 3 → G'.T t = G.T t
  | 0, _, h => by subst h; exact ⟨rfl, fun _ _ _ => rfl⟩
  | k + 1, _, ⟨G'', r, h1, h2⟩ => by
    have a := flN_same h1
    have b := flR_same h2
    exact ⟨b.1.trans a.1, fun t x y => (b.2 t x y).trans (a.2 t x y)⟩
theorem ptR_same {G G' : G2} {b : Nat} {v : Int32} (h : G.ptR b v G') : (∀ k, k ≠ 2 → G'.I k = G.I k) ∧ ∀ t, 4 ≤ t → G'.T t = G.T t := by
  have p1 : ∀ t, 4 ≤ t → (G.pt1 b v).T t = G.T t := fun t ht => sT2_ne _ _ _ _ (by omega)
  have p2 : ∀ t, 4 ≤ t → (G.pt2 b v).T t = G.T t := fun t ht => by
    show (((G.pt1 b v).sI 2 (G.I 2 + 1)).sT 3 _).T t = _
    rw [sT2_ne _ _ _ _ (by omega)]
    exact p1 t ht
  have i2 : ∀ k, k ≠ 2 → (G.pt2 b v).I k = G.I k := fun k hk => va_up_ne _ _ hk
  rcases h with ⟨_, rfl⟩ | ⟨_, ⟨_, rfl⟩ | ⟨_, r, hf⟩⟩
  · exact ⟨fun _ _ => rfl, p1⟩
  · exact ⟨i2, p2⟩
  · have a := flR_same hf
    exact ⟨fun k hk => by rw [a.1]; exact i2 k hk, fun t ht => by rw [a.2 t (by omega) (by omega)]; exact p2 t ht⟩
theorem ptN_same {G : G2} {f : Nat} {v : Int32} : ∀ {k : Nat} {G' : G2}, G.ptN f v k G' → (∀ k, k ≠ 2 → G'.I k = G.I k) ∧ ∀ t, 4 ≤ t → G'.T t = G.T t
  | 0, _, h => by subst h; exact ⟨fun _ _ => rfl, fun _ _ => rfl⟩
  | k + 1, _, ⟨G'', h1, h2⟩ => by
    have a := ptN_same h1
    have b := ptR_same h2
    exact ⟨fun j hj => (b.1 j hj).trans (a.1 j hj), fun t ht => (b.2 t ht).trans (a.2 t ht)⟩
/-- the target's work in the reference -/
def G2.wkR (G : G2) (q sz f c : Nat) (nx : Int32) (G' : G2) : Prop :=
  (G.T 4 q = 0 ∧ ((¬ nx < G.T 6 q ∧ ∃ G'', G.ptN f (G.T 7 q) c G'' ∧ G' = G''.fin sz (nI q)) ∨ (nx < G.T 6 q ∧ G' = G.pst 1 sz (nI q) 2 nx 0 (G.I 6 + G.I 0)))) ∨
  (¬ G.T 4 q = 0 ∧ ((G.T 4 q = 1 ∧ G' = (G.rdN (nI q) f sz c).fin (sz + c) (nI q)) ∨ (¬ G.T 4 q = 1 ∧ ∃ G'', G.flN 16 G'' ∧ G' = G''.fin sz (nI q))))
def G2.cr (G : G2) (ca : Int32) : G2 := if ca ≤ G.I 7 then G else G.sI 7 ca
def G2.tk4 (G : G2) (q : Nat) (kd : Int32) : G2 := if kd = 4 then G.sT 8 (upd (G.T 8) q 2) else G
def G2.end_ (G : G2) (n : Nat) : G2 := ((((G.sI 4 0).sT 16 (upd (G.T 16) 0 0)).sT 16 (upd (upd (G.T 16) 0 0) 1 0)).sT 8 (rop (G.T 8) n))
def shb (f : Nat → Int32) (b m : Nat) : Nat → Int32 := fun j => if b ≤ j ∧ j < b + m then f (j + 1) else f j
theorem shb_0 (f : Nat → Int32) (b : Nat) : shb f b 0 = f := by
  funext j
  simp only [shb]
  rw [if_neg (by omega)]
theorem shb_at (f : Nat → Int32) (b i : Nat) : shb f b i (b + i + 1) = f (b + i + 1) := by
  simp only [shb]
  rw [if_neg (by omega)]
theorem shb_s (f : Nat → Int32) (b i : Nat) : upd (shb f b i) (b + i) (f (b + i + 1)) = shb f b (i + 1) := by
  funext j
  by_cases h : j = b + i
  · subst h
    rw [pk_us]
    simp only [shb]
    rw [if_pos ⟨by omega, by omega⟩]
  · rw [pk_un h]
    simp only [shb]
    by_cases h2 : b ≤ j ∧ j < b + i
    · rw [if_pos h2, if_pos ⟨h2.1, by omega⟩]
    · rw [if_neg h2, if_neg (by omega)]
/-- the line's messages move up -/
def G2.shf6 (G : G2) (b m : Nat) : G2 := (((((G.sT 10 (shb (G.T 10) b m)).sT 11 (shb (G.T 11) b m)).sT 12 (shb (G.T 12) b m)).sT 13 (shb (G.T 13) b m)).sT 14 (shb (G.T 14) b m)).sT 15 (shb (G.T 15) b m)
