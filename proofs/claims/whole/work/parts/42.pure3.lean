/-! pure: the target's work in the class -/
theorem wbn_N (G : G1) (k : Nat) (hk : k ≠ 1) : ∀ n, (G.wbn n).N k = G.N k
  | 0 => rfl
  | n + 1 => by
    show (G.wbn n).wb.N k = _
    rw [wb_N _ _ hk, wbn_N G k hk n]
theorem wbn_I (G : G1) : ∀ n, (G.wbn n).I = G.I
  | 0 => rfl
  | n + 1 => by
    show (G.wbn n).wb.I = _
    rw [wb_I, wbn_I G n]
theorem wbn_T (G : G1) (t : Nat) (ht : 3 ≤ t) : ∀ n, (G.wbn n).T t = G.T t
  | 0 => rfl
  | n + 1 => by
    show (G.wbn n).wb.T t = _
    rw [wb_T _ _ ht, wbn_T G t ht n]
theorem wbn_R (G : G1) : ∀ n, (G.wbn n).R = G.R
  | 0 => rfl
  | n + 1 => by
    show (G.wbn n).wb.R = _
    rw [wb_R, wbn_R G n]
theorem snd_N (G : G1) (x : Nat) (a b c d e : Int32) (k : Nat) : (G.snd x a b c d e).N k = if k = 2 + x then G.N k + 1 else G.N k := by
  show va_up G.1 (2 + x) (G.N (2 + x) + 1) k = _
  by_cases h : k = 2 + x
  · subst h; rw [va_up_self, if_pos rfl]
  · rw [va_up_ne _ _ h, if_neg h]
theorem snd_I (G : G1) (x : Nat) (a b c d e : Int32) : (G.snd x a b c d e).I = G.I := rfl
theorem snd_R (G : G1) (x : Nat) (a b c d e : Int32) : (G.snd x a b c d e).R = G.R := rfl
theorem snd_T (G : G1) (x : Nat) (a b c d e : Int32) (t : Nat) (ht : t < 10) : (G.snd x a b c d e).T t = G.T t := sM_low _ _ _ _ _ ht
theorem snd_pv (G : G1) (x : Nat) (hx : x < 2) (a b c d e : Int32) (k : Nat) : (G.snd x a b c d e).pv k = G.pv k := by
  have e1 : (G.snd x a b c d e).N 1 = G.N 1 := by rw [snd_N, if_neg (by omega)]
  unfold G1.pv
  rw [e1, snd_T _ _ _ _ _ _ _ 0 (by omega), snd_T _ _ _ _ _ _ _ 1 (by omega), snd_T _ _ _ _ _ _ _ 2 (by omega)]
theorem snd_cOK {G : G1} (x : Nat) (hx : x < 2) (a b c d e : Int32) (h : cOK G) : cOK (G.snd x a b c d e) := by
  refine ⟨by rw [snd_N, if_neg (by omega)]; exact h.1, by rw [snd_N, snd_N, if_neg (by omega), if_neg (by omega)]; exact h.2.1, fun j hj => ?_⟩
  rw [snd_N, if_neg (by omega)] at hj
  rw [snd_T _ _ _ _ _ _ _ 1 (by omega)]
  exact h.2.2 j hj
def G1.fin (G : G1) (q : Int32) : G1 := (G.sI 4 (G.I 4 + 1)).snd 1 q 4 0 0 (G.I 4 + 1 + G.I 0)
def G1.rdn (G : G1) (q : Int32) (f : Nat) : Nat → G1
  | 0 => G
  | k + 1 => (G.rdn q f k).snd 1 q 3 (nI k) (G.pv (f + k)) (G.I 4 + G.I 0)
theorem rdn_N (G : G1) (q : Int32) (f t : Nat) : ∀ k, (G.rdn q f k).N t = if t = 3 then G.N 3 + k else G.N t
  | 0 => by
    show G.N t = _
    split
    · rename_i h; rw [h]; rfl
    · rfl
  | k + 1 => by
    show ((G.rdn q f k).snd 1 q 3 _ _ _).N t = _
    rw [snd_N, rdn_N G q f t k]
    by_cases h : t = 3
    · subst h; simp; omega
    · rw [if_neg (by omega), if_neg h, if_neg h]
theorem rdn_I (G : G1) (q : Int32) (f : Nat) : ∀ k, (G.rdn q f k).I = G.I
  | 0 => rfl
  | k + 1 => rdn_I G q f k
theorem rdn_R (G : G1) (q : Int32) (f : Nat) : ∀ k, (G.rdn q f k).R = G.R
  | 0 => rfl
  | k + 1 => rdn_R G q f k
theorem rdn_T (G : G1) (q : Int32) (f t : Nat) (ht : t < 10) : ∀ k, (G.rdn q f k).T t = G.T t
  | 0 => rfl
  | k + 1 => by
    show ((G.rdn q f k).snd 1 q 3 _ _ _).T t = _
    rw [snd_T _ _ _ _ _ _ _ _ ht, rdn_T G q f t ht k]
theorem rdn_pv (G : G1) (q : Int32) (f b : Nat) : ∀ k, (G.rdn q f k).pv b = G.pv b
  | 0 => rfl
  | k + 1 => by
    show ((G.rdn q f k).snd 1 q 3 _ _ _).pv b = _
    rw [snd_pv _ _ (by omega), rdn_pv G q f b k]
theorem rdn_cOK {G : G1} (q : Int32) (f : Nat) (h : cOK G) : ∀ k, cOK (G.rdn q f k)
  | 0 => h
  | k + 1 => snd_cOK 1 (by omega) _ _ _ _ _ (rdn_cOK q f h k)
theorem pt_N (G : G1) (b v : Int32) (k : Nat) (hk : k ≠ 1) : (G.pt b v).N k = G.N k := by
  unfold G1.pt
  split
  · rfl
  · split
    · exact va_up_ne _ _ hk
    · rw [wb_N _ _ hk]; exact va_up_ne _ _ hk
theorem pt_I (G : G1) (b v : Int32) : (G.pt b v).I = G.I := by
  unfold G1.pt
  split
  · rfl
  · split
    · rfl
    · rw [wb_I]; rfl
theorem pt_R (G : G1) (b v : Int32) : (G.pt b v).R = G.R := by
  unfold G1.pt
  split
  · rfl
  · split
    · rfl
    · rw [wb_R]; rfl
theorem pt_T (G : G1) (b v : Int32) (t : Nat) (ht : 3 ≤ t) : (G.pt b v).T t = G.T t := by
  unfold G1.pt
  split
  · exact va_up_ne _ _ (by omega)
  · split
    · show va_up (va_up G.2.2.1 1 _) 2 _ t = _
      rw [va_up_ne _ _ (by omega), va_up_ne _ _ (by omega)]
    · rw [wb_T _ _ ht]
      show va_up (va_up G.2.2.1 1 _) 2 _ t = _
      rw [va_up_ne _ _ (by omega), va_up_ne _ _ (by omega)]
theorem pt_cOK {G : G1} (b : Nat) (hb : b < 16) (v : Int32) (h : cOK G) (h2 : G.N 1 ≤ G.N 4) : cOK (G.pt (nI b) v) ∧ (G.pt (nI b) v).N 1 ≤ (G.pt (nI b) v).N 4 := by
  have key : cOK (((G.sT 1 (upd (G.T 1) (G.N 1) (nI b))).sT 2 (upd (G.T 2) (G.N 1) v)).sN 1 (G.N 1 + 1)) := by
    refine ⟨h.1, (by show G.N 1 + 1 ≤ G.N 4 + 1; omega), fun j hj => ?_⟩
    show ∃ b_1, b_1 < 16 ∧ upd (G.T 1) (G.N 1) (nI b) j = nI b_1
    by_cases c : j = G.N 1
    · subst c; exact ⟨b, hb, pk_us⟩
    · rw [pk_un c]; exact h.2.2 j (by have : j < G.N 1 + 1 := hj; omega)
  unfold G1.pt
  split
  · exact ⟨⟨h.1, h.2.1, h.2.2⟩, h2⟩
  · split
    · rename_i h3
      exact ⟨key, h3⟩
    · refine ⟨wb_cOK key, ?_⟩
      rw [wb_N1, wb_N _ 4 (by decide)]
      show G.N 1 + 1 - 1 ≤ G.N 4
      omega
def G1.ptn (G : G1) (f : Nat) (v : Int32) : Nat → G1
  | 0 => G
  | k + 1 => (G.ptn f v k).pt (nI (f + k)) (v + nI k)
theorem ptn_N (G : G1) (f : Nat) (v : Int32) (t : Nat) (ht : t ≠ 1) : ∀ k, (G.ptn f v k).N t = G.N t
  | 0 => rfl
  | k + 1 => by
    show ((G.ptn f v k).pt _ _).N t = _
    rw [pt_N _ _ _ _ ht, ptn_N G f v t ht k]
theorem ptn_I (G : G1) (f : Nat) (v : Int32) : ∀ k, (G.ptn f v k).I = G.I
  | 0 => rfl
  | k + 1 => by
    show ((G.ptn f v k).pt _ _).I = _
    rw [pt_I, ptn_I G f v k]
theorem ptn_R (G : G1) (f : Nat) (v : Int32) : ∀ k, (G.ptn f v k).R = G.R
  | 0 => rfl
  | k + 1 => by
    show ((G.ptn f v k).pt _ _).R = _
    rw [pt_R, ptn_R G f v k]
theorem ptn_T (G : G1) (f : Nat) (v : Int32) (t : Nat) (ht : 3 ≤ t) : ∀ k, (G.ptn f v k).T t = G.T t
  | 0 => rfl
  | k + 1 => by
    show ((G.ptn f v k).pt _ _).T t = _
    rw [pt_T _ _ _ _ ht, ptn_T G f v t ht k]
theorem ptn_cOK {G : G1} (f : Nat) (v : Int32) (h : cOK G) (h2 : G.N 1 ≤ G.N 4) : ∀ k, f + k ≤ 16 → cOK (G.ptn f v k) ∧ (G.ptn f v k).N 1 ≤ (G.ptn f v k).N 4
  | 0, _ => ⟨h, h2⟩
  | k + 1, hk => pt_cOK (f + k) (by omega) _ (ptn_cOK f v h h2 k (by omega)).1 (ptn_cOK f v h h2 k (by omega)).2
/-- a request's first block and count are in range -/
def rOK (G : G1) (q : Nat) : Prop := ∃ f c : Nat, G.T 4 q = nI f ∧ G.T 5 q = nI c ∧ f + c ≤ 16 ∧ c ≤ 3
def fN (G : G1) (q : Nat) : Nat := (G.T 4 q).toNatClampNeg
def cN (G : G1) (q : Nat) : Nat := (G.T 5 q).toNatClampNeg
theorem rOK.f {G : G1} {q : Nat} (h : rOK G q) : G.T 4 q = nI (fN G q) ∧ G.T 5 q = nI (cN G q) ∧ fN G q + cN G q ≤ 16 ∧ cN G q ≤ 3 := by
  obtain ⟨f, c, h1, h2, h3, h4⟩ := h
  have e1 : fN G q = f := by unfold fN; rw [h1]; exact pk_cl f
  have e2 : cN G q = c := by unfold cN; rw [h2]; exact pk_cl c
  rw [e1, e2]
  exact ⟨h1, h2, h3, h4⟩
/-- part of a write -/
def G1.wp (G : G1) (q : Nat) (part : Int32) : G1 :=
  if G.T 5 q - 1 ≤ part then (G.ptn (fN G q) (G.T 6 q) (cN G q)).fin (nI q) else G.snd 1 (nI q) 2 (part + 1) 0 (G.I 4 + G.I 0)
/-- the target works a command -/
def G1.wk (G : G1) (q : Nat) (part : Int32) : G1 :=
  if G.T 3 q = 0 then G.wp q part else if G.T 3 q = 1 then (G.rdn (nI q) (fN G q) (cN G q)).fin (nI q) else (G.wbn (G.N 1)).fin (nI q)
/-- the initiator takes a message -/
def G1.tki (G : G1) (q : Nat) (kd nm vl ca : Int32) : G1 :=
  let G' := G.sI 5 (if G.I 5 < ca then ca else G.I 5)
  if kd = 2 then G'.snd 0 (nI q) 1 nm 0 0 else if kd = 3 then G'.sR q (upd (G.R q) nm.toNatClampNeg vl) else G'.sT 7 (upd (G.T 7) q 2)
