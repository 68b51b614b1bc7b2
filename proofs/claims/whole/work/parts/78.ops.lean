/-! every call, on both sides at once -/
def Two (cI cZ cR cM : ClassId) (t o1 o2 : Nat) (M : Mem) : Prop := ∃ (M1 M2 : Mem) (ad1 ad2 : Nat → Nat) (A : G1) (B : G2), mdj M1 M2 ∧ M = mun M1 M2 ∧ ad1 0 = o1 ∧ ad2 0 = o2 ∧ R1 cI cR cM M1 ad1 A ∧ R2 cI cZ M2 ad2 B ∧ Sim t A B
theorem mdj.sy {M1 M2 : Mem} (h : mdj M1 M2) : mdj M2 M1 := fun a => (h a).symm
theorem mun_comm {M1 M2 : Mem} (h : mdj M1 M2) : mun M1 M2 = mun M2 M1 := by
  funext a
  unfold mun
  rcases h a with z | z
  · rw [z]; cases M2 a <;> rfl
  · rw [z]; cases M1 a <;> rfl
theorem mun_l {M1 M2 : Mem} {a : Nat} {e : va_E} (h : M1 a = some e) : mun M1 M2 a = some e := by
  unfold mun
  rw [h]
theorem Two.o1 {cI cZ cR cM : ClassId} {t o1 o2 : Nat} {M : Mem} (h : Two cI cZ cR cM t o1 o2 M) : ∃ fs, M o1 = some (ob 4 fs) := by
  obtain ⟨M1, M2, ad1, ad2, A, B, hd, rfl, rfl, rfl, h1, h2, hS⟩ := h
  exact ⟨_, mun_l h1.o⟩
section OPS
variable {D : va_G} {l : Launch} {cI cZ cR cM : ClassId} {t o1 o2 : Nat} {M M1 M2 : Mem}
theorem op_of {y1 y2 : MethodName} {c1 c2 : ByteArray} {n1 n2 : Nat} {rt : Option FieldType} {f1 l1 k1 s1 f2 l2 k2 s2 : Nat} {a1 a2 : List Value} {P : Option Value → Prop} {p1 p2 : Option Value → Mem → Prop} (hd : mdj M1 M2) (ho : ∃ fs, M2 o2 = some (ob 5 fs)) (g1 : Ct TT D cls (tyL cI cZ cR cM) l y1 c1 n1 rt f1 l1 k1 s1 a1 M1 p1) (g2 : Ct TT D cls (tyL cI cZ cR cM) l y2 c2 n2 rt f2 l2 k2 s2 a2 M2 p2) (hp : ∀ rv M', p1 rv M' → P rv) (hj : ∀ rv M1' rv2 M2', p1 rv M1' → p2 rv2 M2' → rv2 = rv ∧ ∃ (ad1 ad2 : Nat → Nat) (A : G1) (B : G2), ad1 0 = o1 ∧ ad2 0 = o2 ∧ R1 cI cR cM M1' ad1 A ∧ R2 cI cZ M2' ad2 B ∧ Sim t A B) :
    Ct TT D cls (tyL cI cZ cR cM) l y1 c1 n1 rt f1 l1 k1 s1 a1 (mun M1 M2) (fun rv M' => P rv ∧ (∃ fs, M' o2 = some (ob 5 fs)) ∧ Ct TT D cls (tyL cI cZ cR cM) l y2 c2 n2 rt f2 l2 k2 s2 a2 M' (fun rv2 M'' => rv2 = rv ∧ Two cI cZ cR cM t o1 o2 M'')) := by
  refine ct_mono (ct_frame g1 M2 hd) (fun rv M' hx => ?_)
  obtain ⟨M1', q1, hd', rfl⟩ := hx
  obtain ⟨fs, ho⟩ := ho
  refine ⟨hp rv M1' q1, ⟨fs, by rw [mun_comm hd']; exact mun_l ho⟩, ?_⟩
  rw [mun_comm hd']
  refine ct_mono (ct_frame g2 M1' hd'.sy) (fun rv2 M'' hy => ?_)
  obtain ⟨M2', q2, hd2, rfl⟩ := hy
  obtain ⟨e, ad1, ad2, A, B, e1, e2, r1, r2, hS⟩ := hj rv M1' rv2 M2' q1 q2
  exact ⟨e, M1', M2', ad1, ad2, A, B, hd2.sy, mun_comm hd2, e1, e2, r1, r2, hS⟩
set_option maxHeartbeats 1000000 in
theorem op_write (h : Two cI cZ cR cM t o1 o2 M) (ht : t < 2 ^ 19) (x n v : Int32) : Ct TT D cls (tyL cI cZ cR cM) l y_Bs_write b_Bs_write 4 (some .int) 3 73 2 9 [.ref o1, .int x, .int n, .int v] M (fun rv M' => (∃ v : Int32, rv = some (.int v)) ∧ (∃ fs, M' o2 = some (ob 5 fs)) ∧ Ct TT D cls (tyL cI cZ cR cM) l y_Md_write b_Md_write 4 (some .int) 1 24 0 0 [.ref o2, .int x, .int n, .int v] M' (fun rv2 M'' => rv2 = rv ∧ Two cI cZ cR cM (t + 3) o1 o2 M'')) := by
  obtain ⟨M1, M2, ad1, ad2, A, B, hd, rfl, rfl, rfl, h1, h2, hS⟩ := h
  have hn := hS.n
  have hz := hS.sizes
  have hu := hS.up (show t ≤ t + 3 by omega)
  have hses := hS.ses
  have stay : ∀ {M1' M2' : Mem}, R1 cI cR cM M1' ad1 A → R2 cI cZ M2' ad2 B → ∃ (ad1' ad2' : Nat → Nat) (A' : G1) (B' : G2), ad1' 0 = ad1 0 ∧ ad2' 0 = ad2 0 ∧ R1 cI cR cM M1' ad1' A' ∧ R2 cI cZ M2' ad2' B' ∧ Sim (t + 3) A' B' := fun r1 r2 => ⟨ad1, ad2, A, B, rfl, rfl, r1, r2, hu⟩
  refine op_of (P := fun rv => (∃ v : Int32, rv = some (.int v))) hd ⟨_, h2.o⟩ (ct_Bs_write h1 hn.1 x n v) (ct_Md_write h2 (A.N 0) hn.2 hn.1 x n v) (fun rv M' hp => ?_) (fun rv M1' rv2 M2' p1 p2 => ?_)
  · rcases hp with ⟨_, rfl, _⟩ | ⟨_, ⟨_, rfl, _⟩ | ⟨_, rfl, _⟩⟩ <;> exact ⟨_, rfl⟩
  · simp only [isO_iff, Classical.not_not] at p2
    rcases p1 with ⟨c1, rfl, r1⟩ | ⟨c1, ⟨e1, rfl, r1⟩ | ⟨e1, rfl, ad', e0, r1⟩⟩
    · rcases p2 with ⟨c2, rfl, r2⟩ | ⟨c2, -⟩
      · exact ⟨rfl, stay r1 r2⟩
      · exact absurd c2 c1
    · rcases p2 with ⟨c2, -⟩ | ⟨c2, ⟨e2, rfl, r2⟩ | ⟨e2, -⟩⟩
      · exact absurd c1 c2
      · exact ⟨rfl, stay r1 r2⟩
      · omega
    · rcases p2 with ⟨c2, -⟩ | ⟨c2, ⟨e2, -⟩ | ⟨e2, rfl, r2⟩⟩
      · exact absurd c1 c2
      · omega
      · exact ⟨rfl, ad', ad2, _, _, e0, rfl, r1, r2, (sim_add (k := 0) (v := v) hS e1 (isS_rng c1)).up (by omega)⟩
set_option maxHeartbeats 1000000 in
theorem op_read (h : Two cI cZ cR cM t o1 o2 M) (ht : t < 2 ^ 19) (x n : Int32) : Ct TT D cls (tyL cI cZ cR cM) l y_Bs_read b_Bs_read 3 (some .int) 3 73 2 9 [.ref o1, .int x, .int n] M (fun rv M' => (∃ v : Int32, rv = some (.int v)) ∧ (∃ fs, M' o2 = some (ob 5 fs)) ∧ Ct TT D cls (tyL cI cZ cR cM) l y_Md_read b_Md_read 3 (some .int) 1 24 0 0 [.ref o2, .int x, .int n] M' (fun rv2 M'' => rv2 = rv ∧ Two cI cZ cR cM (t + 3) o1 o2 M'')) := by
  obtain ⟨M1, M2, ad1, ad2, A, B, hd, rfl, rfl, rfl, h1, h2, hS⟩ := h
  have hn := hS.n
  have hz := hS.sizes
  have hu := hS.up (show t ≤ t + 3 by omega)
  have hses := hS.ses
  have stay : ∀ {M1' M2' : Mem}, R1 cI cR cM M1' ad1 A → R2 cI cZ M2' ad2 B → ∃ (ad1' ad2' : Nat → Nat) (A' : G1) (B' : G2), ad1' 0 = ad1 0 ∧ ad2' 0 = ad2 0 ∧ R1 cI cR cM M1' ad1' A' ∧ R2 cI cZ M2' ad2' B' ∧ Sim (t + 3) A' B' := fun r1 r2 => ⟨ad1, ad2, A, B, rfl, rfl, r1, r2, hu⟩
  refine op_of (P := fun rv => (∃ v : Int32, rv = some (.int v))) hd ⟨_, h2.o⟩ (ct_Bs_read h1 hn.1 x n) (ct_Md_read h2 (A.N 0) hn.2 hn.1 x n) (fun rv M' hp => ?_) (fun rv M1' rv2 M2' p1 p2 => ?_)
  · rcases hp with ⟨_, rfl, _⟩ | ⟨_, ⟨_, rfl, _⟩ | ⟨_, rfl, _⟩⟩ <;> exact ⟨_, rfl⟩
  · simp only [isO_iff, Classical.not_not] at p2
    rcases p1 with ⟨c1, rfl, r1⟩ | ⟨c1, ⟨e1, rfl, r1⟩ | ⟨e1, rfl, ad', e0, r1⟩⟩
    · rcases p2 with ⟨c2, rfl, r2⟩ | ⟨c2, -⟩
      · exact ⟨rfl, stay r1 r2⟩
      · exact absurd c2 c1
    · rcases p2 with ⟨c2, -⟩ | ⟨c2, ⟨e2, rfl, r2⟩ | ⟨e2, -⟩⟩
      · exact absurd c1 c2
      · exact ⟨rfl, stay r1 r2⟩
      · omega
    · rcases p2 with ⟨c2, -⟩ | ⟨c2, ⟨e2, -⟩ | ⟨e2, rfl, r2⟩⟩
      · exact absurd c1 c2
      · omega
      · exact ⟨rfl, ad', ad2, _, _, e0, rfl, r1, r2, (sim_add (k := 1) (v := 0) hS e1 (isS_rng c1)).up (by omega)⟩
set_option maxHeartbeats 1000000 in
theorem op_sync (h : Two cI cZ cR cM t o1 o2 M) (ht : t < 2 ^ 19) : Ct TT D cls (tyL cI cZ cR cM) l y_Bs_sync b_Bs_sync 1 (some .int) 3 73 2 9 [.ref o1] M (fun rv M' => (∃ v : Int32, rv = some (.int v)) ∧ (∃ fs, M' o2 = some (ob 5 fs)) ∧ Ct TT D cls (tyL cI cZ cR cM) l y_Md_sync b_Md_sync 1 (some .int) 1 24 0 0 [.ref o2] M' (fun rv2 M'' => rv2 = rv ∧ Two cI cZ cR cM (t + 3) o1 o2 M'')) := by
  obtain ⟨M1, M2, ad1, ad2, A, B, hd, rfl, rfl, rfl, h1, h2, hS⟩ := h
  have hn := hS.n
  have hz := hS.sizes
  have hu := hS.up (show t ≤ t + 3 by omega)
  have hses := hS.ses
  have stay : ∀ {M1' M2' : Mem}, R1 cI cR cM M1' ad1 A → R2 cI cZ M2' ad2 B → ∃ (ad1' ad2' : Nat → Nat) (A' : G1) (B' : G2), ad1' 0 = ad1 0 ∧ ad2' 0 = ad2 0 ∧ R1 cI cR cM M1' ad1' A' ∧ R2 cI cZ M2' ad2' B' ∧ Sim (t + 3) A' B' := fun r1 r2 => ⟨ad1, ad2, A, B, rfl, rfl, r1, r2, hu⟩
  refine op_of (P := fun rv => (∃ v : Int32, rv = some (.int v))) hd ⟨_, h2.o⟩ (ct_Bs_sync h1 hn.1) (ct_Md_sync h2 (A.N 0) hn.2 hn.1) (fun rv M' hp => ?_) (fun rv M1' rv2 M2' p1 p2 => ?_)
  · rcases hp with ⟨_, rfl, _⟩ | ⟨_, rfl, _⟩ <;> exact ⟨_, rfl⟩
  · rcases p1 with ⟨e1, rfl, r1⟩ | ⟨e1, rfl, ad', e0, r1⟩
    · rcases p2 with ⟨e2, rfl, r2⟩ | ⟨e2, -⟩
      · exact ⟨rfl, stay r1 r2⟩
      · omega
    · rcases p2 with ⟨e2, -⟩ | ⟨e2, rfl, r2⟩
      · omega
      · exact ⟨rfl, ad', ad2, _, _, e0, rfl, r1, r2, (sim_add (k := 2) (v := 0) hS e1 ⟨0, 0, nI_0.symm, nI_0.symm, by omega, by omega⟩).up (by omega)⟩
set_option maxHeartbeats 1000000 in
theorem op_send (h : Two cI cZ cR cM t o1 o2 M) (ht : t < 2 ^ 19) : Ct TT D cls (tyL cI cZ cR cM) l y_Bs_send b_Bs_send 2 (some .int) 2 49 0 0 [.ref o1] M (fun rv M' => (∃ v : Int32, rv = some (.int v)) ∧ (∃ fs, M' o2 = some (ob 5 fs)) ∧ Ct TT D cls (tyL cI cZ cR cM) l y_Md_send b_Md_send 2 (some .int) 1 26 0 0 [.ref o2] M' (fun rv2 M'' => rv2 = rv ∧ Two cI cZ cR cM (t + 3) o1 o2 M'')) := by
  obtain ⟨M1, M2, ad1, ad2, A, B, hd, rfl, rfl, rfl, h1, h2, hS⟩ := h
  have hn := hS.n
  have hz := hS.sizes
  have hu := hS.up (show t ≤ t + 3 by omega)
  have hses := hS.ses
  have stay : ∀ {M1' M2' : Mem}, R1 cI cR cM M1' ad1 A → R2 cI cZ M2' ad2 B → ∃ (ad1' ad2' : Nat → Nat) (A' : G1) (B' : G2), ad1' 0 = ad1 0 ∧ ad2' 0 = ad2 0 ∧ R1 cI cR cM M1' ad1' A' ∧ R2 cI cZ M2' ad2' B' ∧ Sim (t + 3) A' B' := fun r1 r2 => ⟨ad1, ad2, A, B, rfl, rfl, r1, r2, hu⟩
  have hcap : A.I 3 < A.I 5 → A.N 2 < 4 := fun g => by
    obtain ⟨W, hW, hSS⟩ := hS.s
    by_cases z : A.I 1 = 0
    · have := (hSS.2.2.2.2.2.2.1 z).2.2.2.1
      omega
    · exact (hW z).send_room hSS.2.1 g (by omega)
  refine op_of (P := fun rv => (∃ v : Int32, rv = some (.int v))) hd ⟨_, h2.o⟩ (ct_Bs_send h1 hn.1 hcap) (ct_Md_send h2 (A.N 0) hn.2 hn.1 (A.N 2) (by omega) hS.l.1) (fun rv M' hp => ?_) (fun rv M1' rv2 M2' p1 p2 => ?_)
  · obtain ⟨rfl, _⟩ := hp
    exact ⟨_, rfl⟩
  · obtain ⟨rfl, r1⟩ := p1
    by_cases z : A.I 1 = 0
    · have e : A.sendR = (-4, A) := by unfold G1.sendR; rw [if_pos z]
      rw [e] at r1 ⊢
      rcases p2 with ⟨y, rfl, r2⟩ | ⟨y, -⟩
      · exact ⟨rfl, stay r1 r2⟩
      · exact absurd (hses.symm.trans z) y
    · have y' : ¬ B.I 4 = 0 := by rw [← hses]; exact z
      have eT : ∀ q, q < A.N 0 → A.T 7 q = B.T 8 q := fun q hq => (hS.q.2.2 q hq).2.2.2.2.1
      obtain ⟨W, hW, hSS⟩ := hS.s
      have hI := hSS.2.2.2.2.2.2.2 z
      by_cases c : plc (A.T 7) 0 (A.N 0) = A.N 0
      · have e : A.sendR = (-3, A) := by unfold G1.sendR; rw [if_neg z, if_pos c]
        rw [e] at r1 ⊢
        have hno := plc_none (f := A.T 7) (b := 0) (n := A.N 0) (by omega)
        rcases p2 with ⟨y, -⟩ | ⟨-, ⟨-, rfl, r2⟩ | ⟨p, hp, h0, -⟩⟩
        · exact absurd y y'
        · exact ⟨rfl, stay r1 r2⟩
        · exact absurd ((eT p hp).trans h0) (hno p hp)
      · have hlt : plc (A.T 7) 0 (A.N 0) < A.N 0 := by have := plc_le (A.T 7) 0 (A.N 0); omega
        have h0 := plc_at hlt
        rcases p2 with ⟨y, -⟩ | ⟨-, ⟨no, -⟩ | ⟨p, hp, h0', hmin, p2⟩⟩
        · exact absurd y y'
        · exact absurd ((eT _ hlt).symm.trans h0) (no _ hlt)
        · have ep : plc (A.T 7) 0 (A.N 0) = p := plc_of ((eT p hp).trans h0') (fun q hq => by rw [eT q (by omega)]; exact hmin q hq) (A.N 0) hp
          rcases p2 with ⟨g, rfl, r2⟩ | ⟨g, rfl, r2⟩
          · have e : A.sendR = (-2, A) := by unfold G1.sendR; rw [if_neg z, if_neg c, if_neg (by rw [hI.1, hI.2.2]; exact g)]
            rw [e] at r1 ⊢
            exact ⟨rfl, stay r1 r2⟩
          · have g' : A.I 3 < A.I 5 := by rw [hI.1, hI.2.2]; exact g
            have e : A.sendR = (nI p, ((A.sT 7 (upd (A.T 7) p 1)).sI 3 (A.I 3 + 1)).snd 0 (nI p) 0 0 0 0) := by unfold G1.sendR; rw [if_neg z, if_neg c, if_pos g', ep]
            rw [e] at r1 ⊢
            exact ⟨rfl, ad1, ad2, _, _, rfl, rfl, r1, r2, (sim_send hS (by omega) z hp g').up (by omega)⟩
set_option maxHeartbeats 1000000 in
theorem op_deliver (h : Two cI cZ cR cM t o1 o2 M) (ht : t < 2 ^ 19) (u : Int32) : Ct TT D cls (tyL cI cZ cR cM) l y_Bs_deliver b_Bs_deliver 3 (some .int) 5 117 0 0 [.ref o1, .int u] M (fun rv M' => (∃ v : Int32, rv = some (.int v)) ∧ (∃ fs, M' o2 = some (ob 5 fs)) ∧ Ct TT D cls (tyL cI cZ cR cM) l y_Md_deliver b_Md_deliver 10 (some .int) 5 115 0 0 [.ref o2, .int u] M' (fun rv2 M'' => rv2 = rv ∧ Two cI cZ cR cM (t + 3) o1 o2 M'')) := by
  obtain ⟨M1, M2, ad1, ad2, A, B, hd, rfl, rfl, rfl, h1, h2, hS⟩ := h
  have hn := hS.n
  have hz := hS.sizes
  have hu := hS.up (show t ≤ t + 3 by omega)
  have hses := hS.ses
  have stay : ∀ {M1' M2' : Mem}, R1 cI cR cM M1' ad1 A → R2 cI cZ M2' ad2 B → ∃ (ad1' ad2' : Nat → Nat) (A' : G1) (B' : G2), ad1' 0 = ad1 0 ∧ ad2' 0 = ad2 0 ∧ R1 cI cR cM M1' ad1' A' ∧ R2 cI cZ M2' ad2' B' ∧ Sim (t + 3) A' B' := fun r1 r2 => ⟨ad1, ad2, A, B, rfl, rfl, r1, r2, hu⟩
  have hc := hS.c.cOK
  have hcr := hS.c.2.2.2.1
  have hrl : ∀ j, j < A.N 0 → rlen A j ≤ 200 := fun j hj => by have := hS.rl j hj; omega
  have hL := hS.l
  have hU : ¬ u = 0 → 0 < A.N 2 → ∃ q, A.T 10 0 = nI q ∧ q < A.N 0 ∧ rOK A q ∧ A.N 3 ≤ 12 := fun _ g => by
    obtain ⟨q, hq, e, -⟩ := hS.m.1 0 g
    exact ⟨q, e, hq, (hS.q.2.2 q hq).2.2.2.2.2, hz.2.2.1 g⟩
  have hDn : u = 0 → 0 < A.N 3 → ∃ q, A.T 20 0 = nI q ∧ q < A.N 0 ∧ (A.T 21 0 = 2 → A.N 2 < 4) ∧ (A.T 21 0 = 3 → ∃ k, A.T 22 0 = nI k ∧ k < rlen A q) := fun _ g => by
    obtain ⟨q, hq, e, kk⟩ := hS.m.2 0 g
    refine ⟨q, e, hq, hz.2.2.2 0 g, fun z => ?_⟩
    rcases kk with ⟨y, -⟩ | ⟨-, y⟩ | y
    · rw [z] at y; exact absurd y (by decide)
    · exact y
    · rw [z] at y; exact absurd y (by decide)
  by_cases hu0 : u = 0
  · have hx : lx u = 1 := by unfold lx; rw [if_pos hu0]
    have c1 := ct_Bs_deliver (D := D) (l := l) (cZ := cZ) h1 u hn.1 hc hcr hrl (by rw [hx]; exact hz.2.1) hU hDn
    have c2 := ct_Md_deliverD (D := D) (l := l) (cR := cR) (cM := cM) h2 u hu0 (A.N 0) hn.2 hn.1 (A.N 2) (A.N 3) (by omega) (by omega) hL.1 hL.2.1 hL.2.2.2.2 (fun g => by
      obtain ⟨q, e, hq, -, k3⟩ := hDn hu0 g
      have e10 : B.T 10 64 = A.T 20 0 := (hL.2.2.2.1 10 0 (by omega) (by omega) g).symm
      have e11 : B.T 11 64 = A.T 21 0 := (hL.2.2.2.1 11 0 (by omega) (by omega) g).symm
      have e12 : B.T 12 64 = A.T 22 0 := (hL.2.2.2.1 12 0 (by omega) (by omega) g).symm
      rw [e10, e11, e12]
      refine ⟨q, e, by omega, fun z => ?_⟩
      obtain ⟨k, ek, hk⟩ := k3 z
      exact ⟨k, ek, by have := hS.rl q hq; omega⟩)
    refine op_of (P := fun rv => ∃ v : Int32, rv = some (.int v)) hd ⟨_, h2.o⟩ c1 c2 (fun rv M' hp => ?_) (fun rv M1' rv2 M2' p1 p2 => ?_)
    · rcases hp with ⟨_, rfl, _⟩ | ⟨_, _, rfl, _⟩ | ⟨_, _, _, _, _, ⟨_, rfl, _⟩ | ⟨_, ⟨_, _, _, rfl, _⟩ | ⟨_, _, _, rfl, _⟩⟩⟩ <;> exact ⟨_, rfl⟩
    · rw [hx] at p1
      rcases p1 with ⟨z, rfl, r1⟩ | ⟨z, zn, rfl, r1⟩ | ⟨z, ad', m, e0, hm, p1⟩
      · rcases p2 with ⟨y, rfl, r2⟩ | ⟨y, -⟩ | ⟨y, -⟩
        · exact ⟨rfl, stay r1 r2⟩
        · exact absurd (hses.symm.trans z) y
        · exact absurd (hses.symm.trans z) y
      · rcases p2 with ⟨y, -⟩ | ⟨y, yn, rfl, r2⟩ | ⟨y, m', ym, -⟩
        · exact absurd (hses.trans y) z
        · exact ⟨rfl, stay r1 r2⟩
        · have zn' : A.N 3 = 0 := zn
          omega
      · have hm3 : A.N 3 = m + 1 := hm
        rcases p2 with ⟨y, -⟩ | ⟨y, yn, -⟩ | ⟨y, m', ym, p2⟩
        · exact absurd (hses.trans y) z
        · omega
        · have em : m' = m := by omega
          subst em
          have e15 : B.T 15 64 = A.T 25 0 := (hL.2.2.2.1 15 0 (by omega) (by omega) (by omega)).symm
          have e11 : B.T 11 64 = A.T 21 0 := (hL.2.2.2.1 11 0 (by omega) (by omega) (by omega)).symm
          have e10 : B.T 10 64 = A.T 20 0 := (hL.2.2.2.1 10 0 (by omega) (by omega) (by omega)).symm
          rcases p1 with ⟨d1, rfl, rr, hrr, r1⟩ | ⟨d1, ⟨nu, -⟩ | ⟨-, q, ⟨eq, hqn⟩, rfl, r1⟩⟩
          · rcases p2 with ⟨d2, rfl, r2⟩ | ⟨d2, -⟩
            · exact ⟨rfl, ad', ad2, _, _, e0, rfl, r1, r2, (sim_bk (A' := A.tk 1 m') hS (tk_N A 1 m' 0 (by omega)) (tk_N A 1 m' 1 (by omega)) (tk_N A 1 m' 4 (by omega)) (fun s hs => tk_T A 1 m' s (by omega)) rfl hrr).up (by omega)⟩
            · exact absurd (e15.symm.trans d2) d1
          · exact absurd hu0 nu
          · rcases p2 with ⟨d2, -⟩ | ⟨d2, rfl, q', k, ⟨eq', hq'⟩, ek, r2⟩
            · exact absurd (e15.trans d1) d2
            · have eqq : q' = q := (nI_eq (by omega) (by omega)).mp (eq'.symm.trans (e10.trans eq))
              subst eqq
              exact ⟨by rw [e11], ad', ad2, _, _, e0, rfl, r1, r2, (sim_down hS (by omega) z hm3 eq hqn ek).up (by omega)⟩
  · have hx : lx u = 0 := by unfold lx; rw [if_neg hu0]
    have c1 := ct_Bs_deliver (D := D) (l := l) (cZ := cZ) h1 u hn.1 hc hcr hrl (by rw [hx]; exact hz.1) hU hDn
    have c2 := ct_Md_deliverU (D := D) (l := l) (cR := cR) (cM := cM) h2 u hu0 (A.N 0) hn.2 hn.1 (A.N 2) (A.N 3) (by omega) (by omega) hL.1 hL.2.1 hL.2.2.2.2 (fun g => by
      obtain ⟨q, e, hq, rk, -⟩ := hU hu0 g
      have e10 : B.T 10 0 = A.T 10 0 := (hL.2.2.1 10 0 (by omega) (by omega) g).symm
      obtain ⟨r3, r4, r5, -⟩ := hS.q.2.2 q hq
      obtain ⟨f, c, h4, h5, h6, h7⟩ := rk
      exact ⟨q, f, c, e10.trans e, by omega, r4.symm.trans h4, r5.symm.trans h5, h6, h7⟩)
    refine op_of (P := fun rv => ∃ v : Int32, rv = some (.int v)) hd ⟨_, h2.o⟩ c1 c2 (fun rv M' hp => ?_) (fun rv M1' rv2 M2' p1 p2 => ?_)
    · rcases hp with ⟨_, rfl, _⟩ | ⟨_, _, rfl, _⟩ | ⟨_, _, _, _, _, ⟨_, rfl, _⟩ | ⟨_, ⟨_, _, _, rfl, _⟩ | ⟨_, _, _, rfl, _⟩⟩⟩ <;> exact ⟨_, rfl⟩
    · rw [hx] at p1
      rcases p1 with ⟨z, rfl, r1⟩ | ⟨z, zn, rfl, r1⟩ | ⟨z, ad', m, e0, hm, p1⟩
      · rcases p2 with ⟨y, rfl, r2⟩ | ⟨y, -⟩ | ⟨y, -⟩
        · exact ⟨rfl, stay r1 r2⟩
        · exact absurd (hses.symm.trans z) y
        · exact absurd (hses.symm.trans z) y
      · rcases p2 with ⟨y, -⟩ | ⟨y, yn, rfl, r2⟩ | ⟨y, m', ym, -⟩
        · exact absurd (hses.trans y) z
        · exact ⟨rfl, stay r1 r2⟩
        · have zn' : A.N 2 = 0 := zn
          omega
      · have hm2 : A.N 2 = m + 1 := hm
        rcases p2 with ⟨y, -⟩ | ⟨y, yn, -⟩ | ⟨y, m', ym, p2⟩
        · exact absurd (hses.trans y) z
        · omega
        · have em : m' = m := by omega
          subst em
          have e15 : B.T 15 0 = A.T 15 0 := (hL.2.2.1 15 0 (by omega) (by omega) (by omega)).symm
          have e11 : B.T 11 0 = A.T 11 0 := (hL.2.2.1 11 0 (by omega) (by omega) (by omega)).symm
          have e10 : B.T 10 0 = A.T 10 0 := (hL.2.2.1 10 0 (by omega) (by omega) (by omega)).symm
          rcases p1 with ⟨d1, rfl, rr, hrr, r1⟩ | ⟨d1, ⟨-, q, ⟨eq, hqn⟩, rfl, r1⟩ | ⟨nu, -⟩⟩
          · rcases p2 with ⟨d2, rfl, r2⟩ | ⟨d2, -⟩
            · exact ⟨rfl, ad', ad2, _, _, e0, rfl, r1, r2, (sim_bk (A' := A.tk 0 m') hS (tk_N A 0 m' 0 (by omega)) (tk_N A 0 m' 1 (by omega)) (tk_N A 0 m' 4 (by omega)) (fun s hs => tk_T A 0 m' s (by omega)) rfl hrr).up (by omega)⟩
            · exact absurd (e15.symm.trans d2) d1
          · rcases p2 with ⟨d2, -⟩ | ⟨d2, rfl, q', f, c, ⟨eq', hq'⟩, hf, ⟨hcc, hfc⟩, B', hwk, r2⟩
            · exact absurd (e15.trans d1) d2
            · have eqq : q' = q := (nI_eq (by omega) (by omega)).mp (eq'.symm.trans (e10.trans eq))
              subst eqq
              exact ⟨by rw [e11], ad', ad2, _, _, e0, rfl, r1, r2, sim_up hS (by omega) z hm2 hqn hf hcc hfc hwk⟩
          · exact absurd nu hu0
set_option maxHeartbeats 1000000 in
theorem op_damage (h : Two cI cZ cR cM t o1 o2 M) (ht : t < 2 ^ 19) (u x : Int32) : Ct TT D cls (tyL cI cZ cR cM) l y_Bs_damage b_Bs_damage 4 (some .int) 1 21 0 0 [.ref o1, .int u, .int x] M (fun rv M' => (∃ v : Int32, rv = some (.int v)) ∧ (∃ fs, M' o2 = some (ob 5 fs)) ∧ Ct TT D cls (tyL cI cZ cR cM) l y_Md_damage b_Md_damage 4 (some .int) 0 0 0 0 [.ref o2, .int u, .int x] M' (fun rv2 M'' => rv2 = rv ∧ Two cI cZ cR cM (t + 3) o1 o2 M'')) := by
  obtain ⟨M1, M2, ad1, ad2, A, B, hd, rfl, rfl, rfl, h1, h2, hS⟩ := h
  have hn := hS.n
  have hz := hS.sizes
  have hu := hS.up (show t ≤ t + 3 by omega)
  have hses := hS.ses
  have stay : ∀ {M1' M2' : Mem}, R1 cI cR cM M1' ad1 A → R2 cI cZ M2' ad2 B → ∃ (ad1' ad2' : Nat → Nat) (A' : G1) (B' : G2), ad1' 0 = ad1 0 ∧ ad2' 0 = ad2 0 ∧ R1 cI cR cM M1' ad1' A' ∧ R2 cI cZ M2' ad2' B' ∧ Sim (t + 3) A' B' := fun r1 r2 => ⟨ad1, ad2, A, B, rfl, rfl, r1, r2, hu⟩
  have hL := hS.l
  by_cases hu0 : u = 0
  · have hx : lx u = 1 := by unfold lx; rw [if_pos hu0]
    have c1 := ct_Bs_damage (D := D) (l := l) (cZ := cZ) h1 u x (by rw [hx]; exact hz.2.1)
    have c2 := ct_Md_damage1 (D := D) (l := l) (cR := cR) (cM := cM) h2 u x hu0 (A.N 3) (by omega) hL.2.1
    refine op_of (P := fun rv => ∃ v : Int32, rv = some (.int v)) hd ⟨_, h2.o⟩ c1 c2 (fun rv M' hp => ?_) (fun rv M1' rv2 M2' p1 p2 => ?_)
    · rcases hp with ⟨_, rfl, _⟩ | ⟨_, _, _, rfl, _⟩ <;> exact ⟨_, rfl⟩
    · rw [hx] at p1
      rcases p1 with ⟨o, rfl, r1⟩ | ⟨j, hj, e, rfl, r1⟩
      · rcases p2 with ⟨-, rfl, r2⟩ | ⟨j', hj', e', -⟩
        · exact ⟨rfl, stay r1 r2⟩
        · exact (out_in (n := A.N 3) o hj' e' (by omega)).elim
      · have hj3 : j < A.N 3 := hj
        rcases p2 with ⟨o, -⟩ | ⟨j', hj', e', rfl, r2⟩
        · exact (out_in o hj3 e (by omega)).elim
        · have ej : j' = j := (nI_eq (by omega) (by omega)).mp (e'.symm.trans e)
          subst ej
          exact ⟨rfl, ad1, ad2, _, _, rfl, rfl, r1, r2, (sim_dm hS 1 j' (by omega) hj).up (by omega)⟩
  · have hx : lx u = 0 := by unfold lx; rw [if_neg hu0]
    have c1 := ct_Bs_damage (D := D) (l := l) (cZ := cZ) h1 u x (by rw [hx]; exact hz.1)
    have c2 := ct_Md_damage0 (D := D) (l := l) (cR := cR) (cM := cM) h2 u x hu0 (A.N 2) (by omega) hL.1
    refine op_of (P := fun rv => ∃ v : Int32, rv = some (.int v)) hd ⟨_, h2.o⟩ c1 c2 (fun rv M' hp => ?_) (fun rv M1' rv2 M2' p1 p2 => ?_)
    · rcases hp with ⟨_, rfl, _⟩ | ⟨_, _, _, rfl, _⟩ <;> exact ⟨_, rfl⟩
    · rw [hx] at p1
      rcases p1 with ⟨o, rfl, r1⟩ | ⟨j, hj, e, rfl, r1⟩
      · rcases p2 with ⟨-, rfl, r2⟩ | ⟨j', hj', e', -⟩
        · exact ⟨rfl, stay r1 r2⟩
        · exact (out_in (n := A.N 2) o hj' e' (by omega)).elim
      · have hj3 : j < A.N 2 := hj
        rcases p2 with ⟨o, -⟩ | ⟨j', hj', e', rfl, r2⟩
        · exact (out_in o hj3 e (by omega)).elim
        · have ej : j' = j := (nI_eq (by omega) (by omega)).mp (e'.symm.trans e)
          subst ej
          exact ⟨rfl, ad1, ad2, _, _, rfl, rfl, r1, r2, (sim_dm hS 0 j' (by omega) hj).up (by omega)⟩
set_option maxHeartbeats 1000000 in
theorem op_drop (h : Two cI cZ cR cM t o1 o2 M) (ht : t < 2 ^ 19) : Ct TT D cls (tyL cI cZ cR cM) l y_Bs_drop b_Bs_drop 1 (some .int) 3 64 0 0 [.ref o1] M (fun rv M' => (∃ v : Int32, rv = some (.int v)) ∧ (∃ fs, M' o2 = some (ob 5 fs)) ∧ Ct TT D cls (tyL cI cZ cR cM) l y_Md_drop b_Md_drop 1 (some .int) 1 21 0 0 [.ref o2] M' (fun rv2 M'' => rv2 = rv ∧ Two cI cZ cR cM (t + 3) o1 o2 M'')) := by
  obtain ⟨M1, M2, ad1, ad2, A, B, hd, rfl, rfl, rfl, h1, h2, hS⟩ := h
  have hn := hS.n
  have hz := hS.sizes
  have hu := hS.up (show t ≤ t + 3 by omega)
  have hses := hS.ses
  have stay : ∀ {M1' M2' : Mem}, R1 cI cR cM M1' ad1 A → R2 cI cZ M2' ad2 B → ∃ (ad1' ad2' : Nat → Nat) (A' : G1) (B' : G2), ad1' 0 = ad1 0 ∧ ad2' 0 = ad2 0 ∧ R1 cI cR cM M1' ad1' A' ∧ R2 cI cZ M2' ad2' B' ∧ Sim (t + 3) A' B' := fun r1 r2 => ⟨ad1, ad2, A, B, rfl, rfl, r1, r2, hu⟩
  have hrl : ∀ j, j < A.N 0 → rlen A j ≤ 200 := fun j hj => by have := hS.rl j hj; omega
  have bk : ∀ rr : Nat → Nat → Int32, (∀ j, A.T 7 j ≠ 1 → rr j = A.R j) → Sim (t + 3) (A.bk rr) (B.end_ (A.N 0)) := fun rr hrr => (sim_bk (A' := A) hS rfl rfl rfl (fun _ _ => rfl) rfl hrr).up (by omega)
  refine op_of (P := fun rv => (∃ v : Int32, rv = some (.int v))) hd ⟨_, h2.o⟩ (ct_Bs_drop h1 hn.1 hrl) (ct_Md_drop h2 (A.N 0) hn.2 hn.1) (fun rv M' hp => ?_) (fun rv M1' rv2 M2' p1 p2 => ?_)
  · rcases hp with ⟨_, rfl, _⟩ | ⟨_, rfl, _⟩ <;> exact ⟨_, rfl⟩
  · rcases p1 with ⟨z, rfl, r1⟩ | ⟨z, rfl, rr, hrr, r1⟩
    · rcases p2 with ⟨y, rfl, r2⟩ | ⟨y, -⟩
      · exact ⟨rfl, stay r1 r2⟩
      · exact absurd (hses.symm.trans z) y
    · rcases p2 with ⟨y, -⟩ | ⟨y, rfl, r2⟩
      · exact absurd (hses.trans y) z
      · exact ⟨rfl, ad1, ad2, _, _, rfl, rfl, r1, r2, bk rr hrr⟩
set_option maxHeartbeats 1000000 in
theorem op_crash (h : Two cI cZ cR cM t o1 o2 M) (ht : t < 2 ^ 19) : Ct TT D cls (tyL cI cZ cR cM) l y_Bs_crash b_Bs_crash 1 (some .int) 3 64 0 0 [.ref o1] M (fun rv M' => (∃ v : Int32, rv = some (.int v)) ∧ (∃ fs, M' o2 = some (ob 5 fs)) ∧ Ct TT D cls (tyL cI cZ cR cM) l y_Md_crash b_Md_crash 2 (some .int) 1 21 0 0 [.ref o2] M' (fun rv2 M'' => rv2 = rv ∧ Two cI cZ cR cM (t + 3) o1 o2 M'')) := by
  obtain ⟨M1, M2, ad1, ad2, A, B, hd, rfl, rfl, rfl, h1, h2, hS⟩ := h
  have hn := hS.n
  have hz := hS.sizes
  have hu := hS.up (show t ≤ t + 3 by omega)
  have hses := hS.ses
  have stay : ∀ {M1' M2' : Mem}, R1 cI cR cM M1' ad1 A → R2 cI cZ M2' ad2 B → ∃ (ad1' ad2' : Nat → Nat) (A' : G1) (B' : G2), ad1' 0 = ad1 0 ∧ ad2' 0 = ad2 0 ∧ R1 cI cR cM M1' ad1' A' ∧ R2 cI cZ M2' ad2' B' ∧ Sim (t + 3) A' B' := fun r1 r2 => ⟨ad1, ad2, A, B, rfl, rfl, r1, r2, hu⟩
  have hrl : ∀ j, j < A.N 0 → rlen A j ≤ 200 := fun j hj => by have := hS.rl j hj; omega
  have bk : ∀ rr : Nat → Nat → Int32, (∀ j, A.T 7 j ≠ 1 → rr j = A.R j) → Sim (t + 3) (A.bk rr) (B.end_ (A.N 0)) := fun rr hrr => (sim_bk (A' := A) hS rfl rfl rfl (fun _ _ => rfl) rfl hrr).up (by omega)
  refine op_of (P := fun rv => (∃ v : Int32, rv = some (.int v))) hd ⟨_, h2.o⟩ (ct_Bs_crash h1 hn.1 hrl) (ct_Md_crash h2 (A.N 0) hn.2 hn.1) (fun rv M' hp => ?_) (fun rv M1' rv2 M2' p1 p2 => ?_)
  · obtain ⟨rfl, _⟩ := hp
    exact ⟨_, rfl⟩
  · obtain ⟨rfl, p1⟩ := p1
    obtain ⟨rfl, p2⟩ := p2
    rcases p1 with ⟨z, r1⟩ | ⟨z, rr, hrr, r1⟩
    · rcases p2 with ⟨y, r2⟩ | ⟨y, -⟩
      · exact ⟨rfl, ad1, ad2, _, _, rfl, rfl, r1, r2, sim_crash hu⟩
      · exact absurd (hses.symm.trans z) y
    · rcases p2 with ⟨y, -⟩ | ⟨y, r2⟩
      · exact absurd (hses.trans y) z
      · exact ⟨rfl, ad1, ad2, _, _, rfl, rfl, r1, r2, sim_crash (bk rr hrr)⟩
set_option maxHeartbeats 1000000 in
theorem op_login (h : Two cI cZ cR cM t o1 o2 M) (ht : t < 2 ^ 19) : Ct TT D cls (tyL cI cZ cR cM) l y_Bs_login b_Bs_login 1 (some .int) 1 23 0 0 [.ref o1] M (fun rv M' => (∃ v : Int32, rv = some (.int v)) ∧ (∃ fs, M' o2 = some (ob 5 fs)) ∧ Ct TT D cls (tyL cI cZ cR cM) l y_Md_login b_Md_login 1 (some .int) 1 23 0 0 [.ref o2] M' (fun rv2 M'' => rv2 = rv ∧ Two cI cZ cR cM (t + 3) o1 o2 M'')) := by
  obtain ⟨M1, M2, ad1, ad2, A, B, hd, rfl, rfl, rfl, h1, h2, hS⟩ := h
  have hn := hS.n
  have hz := hS.sizes
  have hu := hS.up (show t ≤ t + 3 by omega)
  have hses := hS.ses
  have stay : ∀ {M1' M2' : Mem}, R1 cI cR cM M1' ad1 A → R2 cI cZ M2' ad2 B → ∃ (ad1' ad2' : Nat → Nat) (A' : G1) (B' : G2), ad1' 0 = ad1 0 ∧ ad2' 0 = ad2 0 ∧ R1 cI cR cM M1' ad1' A' ∧ R2 cI cZ M2' ad2' B' ∧ Sim (t + 3) A' B' := fun r1 r2 => ⟨ad1, ad2, A, B, rfl, rfl, r1, r2, hu⟩
  refine op_of (P := fun rv => (∃ v : Int32, rv = some (.int v))) hd ⟨_, h2.o⟩ (ct_Bs_login h1 hn.1) (ct_Md_login h2 (A.N 0) hn.2 hn.1) (fun rv M' hp => ?_) (fun rv M1' rv2 M2' p1 p2 => ?_)
  · rcases hp with ⟨_, rfl, _⟩ | ⟨_, rfl, _⟩ <;> exact ⟨_, rfl⟩
  · rcases p1 with ⟨z, rfl, r1⟩ | ⟨z, rfl, r1⟩
    · rcases p2 with ⟨y, rfl, r2⟩ | ⟨y, -⟩
      · exact ⟨rfl, stay r1 r2⟩
      · exact absurd (hses.trans y) z
    · rcases p2 with ⟨y, -⟩ | ⟨y, rfl, r2⟩
      · exact absurd (hses.symm.trans z) y
      · exact ⟨by rw [cnt_TT hS], ad1, ad2, _, _, rfl, rfl, r1, r2, sim_bg hu z⟩
set_option maxHeartbeats 1000000 in
theorem op_flush (h : Two cI cZ cR cM t o1 o2 M) (ht : t < 2 ^ 19) : Ct TT D cls (tyL cI cZ cR cM) l y_Bs_flush b_Bs_flush 1 (some .int) 1 22 0 0 [.ref o1] M (fun rv M' => (∃ v : Int32, rv = some (.int v)) ∧ (∃ fs, M' o2 = some (ob 5 fs)) ∧ Ct TT D cls (tyL cI cZ cR cM) l y_Md_flush b_Md_flush 2 (some .int) 1 24 0 0 [.ref o2] M' (fun rv2 M'' => rv2 = rv ∧ Two cI cZ cR cM (t + 3) o1 o2 M'')) := by
  obtain ⟨M1, M2, ad1, ad2, A, B, hd, rfl, rfl, rfl, h1, h2, hS⟩ := h
  have hn := hS.n
  have hz := hS.sizes
  have hu := hS.up (show t ≤ t + 3 by omega)
  have hses := hS.ses
  have stay : ∀ {M1' M2' : Mem}, R1 cI cR cM M1' ad1 A → R2 cI cZ M2' ad2 B → ∃ (ad1' ad2' : Nat → Nat) (A' : G1) (B' : G2), ad1' 0 = ad1 0 ∧ ad2' 0 = ad2 0 ∧ R1 cI cR cM M1' ad1' A' ∧ R2 cI cZ M2' ad2' B' ∧ Sim (t + 3) A' B' := fun r1 r2 => ⟨ad1, ad2, A, B, rfl, rfl, r1, r2, hu⟩
  refine op_of (P := fun rv => (∃ v : Int32, rv = some (.int v))) hd ⟨_, h2.o⟩ (ct_Bs_flush h1 hS.c.cOK) (ct_Md_flush h2) (fun rv M' hp => ?_) (fun rv M1' rv2 M2' p1 p2 => ?_)
  · obtain ⟨_, rfl, _⟩ := hp
    exact ⟨_, rfl⟩
  · obtain ⟨z, rfl, p1⟩ := p1
    obtain ⟨y, rfl, B', hf, r2⟩ := p2
    have a := SC_wb hS.c (by omega) hf
    have sm := flR_same hf
    have s : Sim (t + 3) A.wb B' := (sim_store (Nat.le_refl t) hS (fun k hk => wb_N A k hk) (wb_I A) (fun k hk => wb_T A k hk) (wb_R A) (fun k _ => by rw [sm.1]) (fun k hk => sm.2 k (by omega) (by omega)) a.1).up (by omega)
    rcases p1 with ⟨n0, rfl, r1⟩ | ⟨n0, rfl, r1⟩
    · rcases a.2 with ⟨-, rfl⟩ | ⟨n1, -⟩
      · exact ⟨rfl, ad1, ad2, _, _, rfl, rfl, r1, r2, s⟩
      · omega
    · rcases a.2 with ⟨n1, -⟩ | ⟨-, rfl⟩
      · omega
      · exact ⟨rfl, ad1, ad2, _, _, rfl, rfl, r1, r2, s⟩
set_option maxHeartbeats 1000000 in
theorem op_state (h : Two cI cZ cR cM t o1 o2 M) (ht : t < 2 ^ 19) (x : Int32) : Ct TT D cls (tyL cI cZ cR cM) l y_Bs_state b_Bs_state 3 (some .int) 1 21 0 0 [.ref o1, .int x] M (fun rv M' => (∃ v : Int32, rv = some (.int v)) ∧ (∃ fs, M' o2 = some (ob 5 fs)) ∧ Ct TT D cls (tyL cI cZ cR cM) l y_Md_state b_Md_state 2 (some .int) 0 0 0 0 [.ref o2, .int x] M' (fun rv2 M'' => rv2 = rv ∧ Two cI cZ cR cM (t + 3) o1 o2 M'')) := by
  obtain ⟨M1, M2, ad1, ad2, A, B, hd, rfl, rfl, rfl, h1, h2, hS⟩ := h
  have hn := hS.n
  have hz := hS.sizes
  have hu := hS.up (show t ≤ t + 3 by omega)
  have hses := hS.ses
  have stay : ∀ {M1' M2' : Mem}, R1 cI cR cM M1' ad1 A → R2 cI cZ M2' ad2 B → ∃ (ad1' ad2' : Nat → Nat) (A' : G1) (B' : G2), ad1' 0 = ad1 0 ∧ ad2' 0 = ad2 0 ∧ R1 cI cR cM M1' ad1' A' ∧ R2 cI cZ M2' ad2' B' ∧ Sim (t + 3) A' B' := fun r1 r2 => ⟨ad1, ad2, A, B, rfl, rfl, r1, r2, hu⟩
  refine op_of (P := fun rv => (∃ v : Int32, rv = some (.int v))) hd ⟨_, h2.o⟩ (ct_Bs_state h1 hn.1 x) (ct_Md_state h2 (A.N 0) hn.2 hn.1 x) (fun rv M' hp => ?_) (fun rv M1' rv2 M2' p1 p2 => ?_)
  · rcases hp with ⟨_, ⟨_, rfl⟩ | ⟨_, _, _, rfl⟩⟩ <;> exact ⟨_, rfl⟩
  · obtain ⟨rfl, p1⟩ := p1
    obtain ⟨rfl, p2⟩ := p2
    refine ⟨?_, stay h1 h2⟩
    rcases p1 with ⟨o, rfl⟩ | ⟨q, hq, e, rfl⟩
    · rcases p2 with ⟨-, rfl⟩ | ⟨q', hq', e', -⟩
      · rfl
      · exact (out_in o hq' e' (by omega)).elim
    · rcases p2 with ⟨o, -⟩ | ⟨q', hq', e', rfl⟩
      · exact (out_in o hq e (by omega)).elim
      · have eq : q' = q := (nI_eq (by omega) (by omega)).mp (e'.symm.trans e)
        subst eq
        rw [(hS.q.2.2 q' hq).2.2.2.2.1]
set_option maxHeartbeats 1000000 in
theorem op_result (h : Two cI cZ cR cM t o1 o2 M) (ht : t < 2 ^ 19) (x y : Int32) : Ct TT D cls (tyL cI cZ cR cM) l y_Bs_result b_Bs_result 4 (some .long) 1 21 0 0 [.ref o1, .int x, .int y] M (fun rv M' => (∃ v : Int64, rv = some (.long v)) ∧ (∃ fs, M' o2 = some (ob 5 fs)) ∧ Ct TT D cls (tyL cI cZ cR cM) l y_Md_result b_Md_result 3 (some .long) 0 0 0 0 [.ref o2, .int x, .int y] M' (fun rv2 M'' => rv2 = rv ∧ Two cI cZ cR cM (t + 3) o1 o2 M'')) := by
  obtain ⟨M1, M2, ad1, ad2, A, B, hd, rfl, rfl, rfl, h1, h2, hS⟩ := h
  have hn := hS.n
  have hz := hS.sizes
  have hu := hS.up (show t ≤ t + 3 by omega)
  have hses := hS.ses
  have stay : ∀ {M1' M2' : Mem}, R1 cI cR cM M1' ad1 A → R2 cI cZ M2' ad2 B → ∃ (ad1' ad2' : Nat → Nat) (A' : G1) (B' : G2), ad1' 0 = ad1 0 ∧ ad2' 0 = ad2 0 ∧ R1 cI cR cM M1' ad1' A' ∧ R2 cI cZ M2' ad2' B' ∧ Sim (t + 3) A' B' := fun r1 r2 => ⟨ad1, ad2, A, B, rfl, rfl, r1, r2, hu⟩
  have hlen : ∀ q, q < A.N 0 → ∃ c : Nat, c ≤ 3 ∧ B.T 6 q = nI c := fun q hq => by
    obtain ⟨a3, a4, a5, a6, a7, rk⟩ := hS.q.2.2 q hq
    exact ⟨cN A q, rk.f.2.2.2, a5.symm.trans rk.f.2.1⟩
  refine op_of (P := fun rv => (∃ v : Int64, rv = some (.long v))) hd ⟨_, h2.o⟩ (ct_Bs_result h1 hn.1 (fun q hq => (hS.q.2.2 q hq).2.2.2.2.2) x y) (ct_Md_result h2 (A.N 0) hn.2 hn.1 hlen x y) (fun rv M' hp => ?_) (fun rv M1' rv2 M2' p1 p2 => ?_)
  · rcases hp with ⟨_, ⟨_, rfl⟩ | ⟨_, _, _, ⟨_, rfl⟩ | ⟨_, _, ⟨_, rfl⟩ | ⟨_, _, _, rfl⟩⟩⟩⟩ <;> exact ⟨_, rfl⟩
  · obtain ⟨rfl, p1⟩ := p1
    obtain ⟨rfl, p2⟩ := p2
    refine ⟨?_, stay h1 h2⟩
    rcases p1 with ⟨o, rfl⟩ | ⟨q, hq, e, p1⟩
    · rcases p2 with ⟨-, rfl⟩ | ⟨q', hq', e', -⟩
      · rfl
      · exact (out_in o hq' e' (by omega)).elim
    · rcases p2 with ⟨o, -⟩ | ⟨q', hq', e', p2⟩
      · exact (out_in o hq e (by omega)).elim
      · have eq : q' = q := (nI_eq (by omega) (by omega)).mp (e'.symm.trans e)
        subst eq
        obtain ⟨a3, a4, a5, a6, a7, rk⟩ := hS.q.2.2 q' hq
        have hr := hS.r.1 q' hq
        rw [← a3, ← a5, ← a7] at p2
        rcases p1 with ⟨c1, rfl⟩ | ⟨c3, c7, p1⟩
        · rcases p2 with ⟨-, rfl⟩ | ⟨d3, d7, -⟩
          · rfl
          · rcases c1 with c | c
            · exact absurd d3 c
            · exact absurd d7 c
        · rcases p2 with ⟨d, -⟩ | ⟨d3, d7, p2⟩
          · rcases d with d | d
            · exact absurd c3 d
            · exact absurd c7 d
          · rcases p1 with ⟨c, rfl⟩ | ⟨k, hk, ek, rfl⟩
            · rcases p2 with ⟨-, rfl⟩ | ⟨k', hk', lk', ek', -⟩
              · rfl
              · subst ek'
                rcases c with c | c
                · exact absurd c (nI_pos (by omega))
                · exact absurd lk' c
            · rcases p2 with ⟨d, -⟩ | ⟨k', hk', lk', ek', rfl⟩
              · have f5 := rk.f
                rw [ek, f5.2.1] at d
                rcases d with d | d
                · exact absurd d (nI_pos (by omega))
                · exact absurd ((nI_ltI (by omega) (by omega)).mpr hk) d
              · have f5 := rk.f
                have ekk : k' = k := (nI_eq (by omega) (by omega)).mp (ek'.symm.trans ek)
                subst ekk
                rw [hr c7 c3 k' hk]
set_option maxHeartbeats 1000000 in
theorem op_present (h : Two cI cZ cR cM t o1 o2 M) (ht : t < 2 ^ 19) (x : Int32) : Ct TT D cls (tyL cI cZ cR cM) l y_Bs_present b_Bs_present 2 (some .long) 2 44 0 0 [.ref o1, .int x] M (fun rv M' => (∃ v : Int64, rv = some (.long v)) ∧ (∃ fs, M' o2 = some (ob 5 fs)) ∧ Ct TT D cls (tyL cI cZ cR cM) l y_Md_present b_Md_present 2 (some .long) 1 21 0 0 [.ref o2, .int x] M' (fun rv2 M'' => rv2 = rv ∧ Two cI cZ cR cM (t + 3) o1 o2 M'')) := by
  obtain ⟨M1, M2, ad1, ad2, A, B, hd, rfl, rfl, rfl, h1, h2, hS⟩ := h
  have hn := hS.n
  have hz := hS.sizes
  have hu := hS.up (show t ≤ t + 3 by omega)
  have hses := hS.ses
  have stay : ∀ {M1' M2' : Mem}, R1 cI cR cM M1' ad1 A → R2 cI cZ M2' ad2 B → ∃ (ad1' ad2' : Nat → Nat) (A' : G1) (B' : G2), ad1' 0 = ad1 0 ∧ ad2' 0 = ad2 0 ∧ R1 cI cR cM M1' ad1' A' ∧ R2 cI cZ M2' ad2' B' ∧ Sim (t + 3) A' B' := fun r1 r2 => ⟨ad1, ad2, A, B, rfl, rfl, r1, r2, hu⟩
  refine op_of (P := fun rv => (∃ v : Int64, rv = some (.long v))) hd ⟨_, h2.o⟩ (ct_Bs_present h1 hS.c.cOK x) (ct_Md_present h2 x) (fun rv M' hp => ?_) (fun rv M1' rv2 M2' p1 p2 => ?_)
  · rcases hp with ⟨_, ⟨_, _, _, rfl⟩ | ⟨_, rfl⟩⟩ <;> exact ⟨_, rfl⟩
  · obtain ⟨rfl, p1⟩ := p1
    obtain ⟨rfl, p2⟩ := p2
    refine ⟨?_, stay h1 h2⟩
    rcases p1 with ⟨b, hb, e, rfl⟩ | ⟨nb, rfl⟩
    · rcases p2 with ⟨b', hb', e', rfl⟩ | ⟨o, -⟩
      · have eq : b' = b := (nI_eq (by omega) (by omega)).mp (e'.symm.trans e)
        subst eq
        rw [hS.c.present (by omega) b' hb]
      · subst e
        rcases o with o | o
        · exact absurd o (nI_pos (by omega))
        · exact absurd (nI_le (a := b) (b := 15) (by omega) (by decide)) o
    · rcases p2 with ⟨b', hb', e', -⟩ | ⟨-, rfl⟩
      · subst e'
        exact absurd ⟨nI_pos (by omega), fun y => by have := (nI_leI (a := 16) (b := b') (by decide) (by omega)).mp y; omega⟩ nb
      · rfl
set_option maxHeartbeats 1000000 in
theorem op_disk (h : Two cI cZ cR cM t o1 o2 M) (ht : t < 2 ^ 19) (x : Int32) : Ct TT D cls (tyL cI cZ cR cM) l y_Bs_disk b_Bs_disk 2 (some .long) 1 20 0 0 [.ref o1, .int x] M (fun rv M' => (∃ v : Int64, rv = some (.long v)) ∧ (∃ fs, M' o2 = some (ob 5 fs)) ∧ Ct TT D cls (tyL cI cZ cR cM) l y_Md_disk b_Md_disk 2 (some .long) 0 0 0 0 [.ref o2, .int x] M' (fun rv2 M'' => rv2 = rv ∧ Two cI cZ cR cM (t + 3) o1 o2 M'')) := by
  obtain ⟨M1, M2, ad1, ad2, A, B, hd, rfl, rfl, rfl, h1, h2, hS⟩ := h
  have hn := hS.n
  have hz := hS.sizes
  have hu := hS.up (show t ≤ t + 3 by omega)
  have hses := hS.ses
  have stay : ∀ {M1' M2' : Mem}, R1 cI cR cM M1' ad1 A → R2 cI cZ M2' ad2 B → ∃ (ad1' ad2' : Nat → Nat) (A' : G1) (B' : G2), ad1' 0 = ad1 0 ∧ ad2' 0 = ad2 0 ∧ R1 cI cR cM M1' ad1' A' ∧ R2 cI cZ M2' ad2' B' ∧ Sim (t + 3) A' B' := fun r1 r2 => ⟨ad1, ad2, A, B, rfl, rfl, r1, r2, hu⟩
  refine op_of (P := fun rv => (∃ v : Int64, rv = some (.long v))) hd ⟨_, h2.o⟩ (ct_Bs_disk h1 hS.c.cOK x) (ct_Md_disk h2 x) (fun rv M' hp => ?_) (fun rv M1' rv2 M2' p1 p2 => ?_)
  · rcases hp with ⟨_, ⟨_, _, _, rfl⟩ | ⟨_, rfl⟩⟩ <;> exact ⟨_, rfl⟩
  · obtain ⟨rfl, p1⟩ := p1
    obtain ⟨rfl, p2⟩ := p2
    refine ⟨?_, stay h1 h2⟩
    rcases p1 with ⟨b, hb, e, rfl⟩ | ⟨nb, rfl⟩
    · rcases p2 with ⟨b', hb', e', rfl⟩ | ⟨o, -⟩
      · have eq : b' = b := (nI_eq (by omega) (by omega)).mp (e'.symm.trans e)
        subst eq
        rw [hS.c.2.2.2.2.1 b' hb]
      · subst e
        rcases o with o | o
        · exact absurd o (nI_pos (by omega))
        · exact absurd (nI_le (a := b) (b := 15) (by omega) (by decide)) o
    · rcases p2 with ⟨b', hb', e', -⟩ | ⟨-, rfl⟩
      · subst e'
        exact absurd ⟨nI_pos (by omega), fun y => by have := (nI_leI (a := 16) (b := b') (by decide) (by omega)).mp y; omega⟩ nb
      · rfl
set_option maxHeartbeats 1000000 in
theorem op_cached (h : Two cI cZ cR cM t o1 o2 M) (ht : t < 2 ^ 19) (x : Int32) : Ct TT D cls (tyL cI cZ cR cM) l y_Bs_cached b_Bs_cached 2 (some .int) 1 21 0 0 [.ref o1, .int x] M (fun rv M' => (∃ v : Int32, rv = some (.int v)) ∧ (∃ fs, M' o2 = some (ob 5 fs)) ∧ Ct TT D cls (tyL cI cZ cR cM) l y_Md_cached b_Md_cached 2 (some .int) 1 24 0 0 [.ref o2, .int x] M' (fun rv2 M'' => rv2 = rv ∧ Two cI cZ cR cM (t + 3) o1 o2 M'')) := by
  obtain ⟨M1, M2, ad1, ad2, A, B, hd, rfl, rfl, rfl, h1, h2, hS⟩ := h
  have hn := hS.n
  have hz := hS.sizes
  have hu := hS.up (show t ≤ t + 3 by omega)
  have hses := hS.ses
  have stay : ∀ {M1' M2' : Mem}, R1 cI cR cM M1' ad1 A → R2 cI cZ M2' ad2 B → ∃ (ad1' ad2' : Nat → Nat) (A' : G1) (B' : G2), ad1' 0 = ad1 0 ∧ ad2' 0 = ad2 0 ∧ R1 cI cR cM M1' ad1' A' ∧ R2 cI cZ M2' ad2' B' ∧ Sim (t + 3) A' B' := fun r1 r2 => ⟨ad1, ad2, A, B, rfl, rfl, r1, r2, hu⟩
  refine op_of (P := fun rv => (∃ v : Int32, rv = some (.int v))) hd ⟨_, h2.o⟩ (ct_Bs_cached h1 hS.c.cOK x) (ct_Md_cached h2 x) (fun rv M' hp => ?_) (fun rv M1' rv2 M2' p1 p2 => ?_)
  · obtain ⟨_, _, rfl, _⟩ := hp
    exact ⟨_, rfl⟩
  · obtain ⟨rfl, z, rfl, p1⟩ := p1
    obtain ⟨rfl, z', rfl, p2⟩ := p2
    refine ⟨?_, stay h1 h2⟩
    rw [hS.cached (by omega) p1 p2]
set_option maxHeartbeats 1000000 in
theorem op_message (h : Two cI cZ cR cM t o1 o2 M) (ht : t < 2 ^ 19) (u x f : Int32) : Ct TT D cls (tyL cI cZ cR cM) l y_Bs_message b_Bs_message 5 (some .int) 1 21 0 0 [.ref o1, .int u, .int x, .int f] M (fun rv M' => (∃ v : Int32, rv = some (.int v)) ∧ (∃ fs, M' o2 = some (ob 5 fs)) ∧ Ct TT D cls (tyL cI cZ cR cM) l y_Md_message b_Md_message 6 (some .int) 0 0 0 0 [.ref o2, .int u, .int x, .int f] M' (fun rv2 M'' => rv2 = rv ∧ Two cI cZ cR cM (t + 3) o1 o2 M'')) := by
  obtain ⟨M1, M2, ad1, ad2, A, B, hd, rfl, rfl, rfl, h1, h2, hS⟩ := h
  have hn := hS.n
  have hz := hS.sizes
  have hu := hS.up (show t ≤ t + 3 by omega)
  have hses := hS.ses
  have stay : ∀ {M1' M2' : Mem}, R1 cI cR cM M1' ad1 A → R2 cI cZ M2' ad2 B → ∃ (ad1' ad2' : Nat → Nat) (A' : G1) (B' : G2), ad1' 0 = ad1 0 ∧ ad2' 0 = ad2 0 ∧ R1 cI cR cM M1' ad1' A' ∧ R2 cI cZ M2' ad2' B' ∧ Sim (t + 3) A' B' := fun r1 r2 => ⟨ad1, ad2, A, B, rfl, rfl, r1, r2, hu⟩
  have hL := hS.l
  by_cases hu0 : u = 0
  · have hx : lx u = 1 := by unfold lx; rw [if_pos hu0]
    have c1 := ct_Bs_message (D := D) (l := l) (cZ := cZ) h1 u x f (by rw [hx]; exact hz.2.1)
    have c2 := ct_Md_message1 (D := D) (l := l) (cR := cR) (cM := cM) h2 u x f hu0 (A.N 3) (by omega) hL.2.1
    refine op_of (P := fun rv => ∃ v : Int32, rv = some (.int v)) hd ⟨_, h2.o⟩ c1 c2 (fun rv M' hp => ?_) (fun rv M1' rv2 M2' p1 p2 => ?_)
    · rcases hp with ⟨_, ⟨_, rfl⟩ | ⟨_, _, _, rfl⟩⟩ <;> exact ⟨_, rfl⟩
    · rw [hx] at p1
      obtain ⟨rfl, p1⟩ := p1
      obtain ⟨rfl, p2⟩ := p2
      refine ⟨?_, stay h1 h2⟩
      rcases p1 with ⟨o, rfl⟩ | ⟨j, hj, e, rfl⟩
      · rcases p2 with ⟨-, rfl⟩ | ⟨j', hj', e', -⟩
        · rfl
        · exact (out_in (n := A.N 3) o hj' e' (by omega)).elim
      · have hj3 : j < A.N 3 := hj
        rcases p2 with ⟨o, -⟩ | ⟨j', hj', e', rfl⟩
        · exact (out_in o hj3 e (by omega)).elim
        · have ej : j' = j := (nI_eq (by omega) (by omega)).mp (e'.symm.trans e)
          subst ej
          rw [hS.fld1 hj3]
  · have hx : lx u = 0 := by unfold lx; rw [if_neg hu0]
    have c1 := ct_Bs_message (D := D) (l := l) (cZ := cZ) h1 u x f (by rw [hx]; exact hz.1)
    have c2 := ct_Md_message0 (D := D) (l := l) (cR := cR) (cM := cM) h2 u x f hu0 (A.N 2) (by omega) hL.1
    refine op_of (P := fun rv => ∃ v : Int32, rv = some (.int v)) hd ⟨_, h2.o⟩ c1 c2 (fun rv M' hp => ?_) (fun rv M1' rv2 M2' p1 p2 => ?_)
    · rcases hp with ⟨_, ⟨_, rfl⟩ | ⟨_, _, _, rfl⟩⟩ <;> exact ⟨_, rfl⟩
    · rw [hx] at p1
      obtain ⟨rfl, p1⟩ := p1
      obtain ⟨rfl, p2⟩ := p2
      refine ⟨?_, stay h1 h2⟩
      rcases p1 with ⟨o, rfl⟩ | ⟨j, hj, e, rfl⟩
      · rcases p2 with ⟨-, rfl⟩ | ⟨j', hj', e', -⟩
        · rfl
        · exact (out_in (n := A.N 2) o hj' e' (by omega)).elim
      · have hj3 : j < A.N 2 := hj
        rcases p2 with ⟨o, -⟩ | ⟨j', hj', e', rfl⟩
        · exact (out_in o hj3 e (by omega)).elim
        · have ej : j' = j := (nI_eq (by omega) (by omega)).mp (e'.symm.trans e)
          subst ej
          rw [hS.fld0 hj3]
set_option maxHeartbeats 1000000 in
theorem op_waiting (h : Two cI cZ cR cM t o1 o2 M) (ht : t < 2 ^ 19) (u : Int32) : Ct TT D cls (tyL cI cZ cR cM) l y_Bs_waiting b_Bs_waiting 2 (some .int) 1 21 0 0 [.ref o1, .int u] M (fun rv M' => (∃ v : Int32, rv = some (.int v)) ∧ (∃ fs, M' o2 = some (ob 5 fs)) ∧ Ct TT D cls (tyL cI cZ cR cM) l y_Md_waiting b_Md_waiting 2 (some .int) 0 0 0 0 [.ref o2, .int u] M' (fun rv2 M'' => rv2 = rv ∧ Two cI cZ cR cM (t + 3) o1 o2 M'')) := by
  obtain ⟨M1, M2, ad1, ad2, A, B, hd, rfl, rfl, rfl, h1, h2, hS⟩ := h
  have hn := hS.n
  have hz := hS.sizes
  have hu := hS.up (show t ≤ t + 3 by omega)
  have hses := hS.ses
  have stay : ∀ {M1' M2' : Mem}, R1 cI cR cM M1' ad1 A → R2 cI cZ M2' ad2 B → ∃ (ad1' ad2' : Nat → Nat) (A' : G1) (B' : G2), ad1' 0 = ad1 0 ∧ ad2' 0 = ad2 0 ∧ R1 cI cR cM M1' ad1' A' ∧ R2 cI cZ M2' ad2' B' ∧ Sim (t + 3) A' B' := fun r1 r2 => ⟨ad1, ad2, A, B, rfl, rfl, r1, r2, hu⟩
  refine op_of (P := fun rv => (∃ v : Int32, rv = some (.int v))) hd ⟨_, h2.o⟩ (ct_Bs_waiting h1 u) (ct_Md_waiting h2 u) (fun rv M' hp => ?_) (fun rv M1' rv2 M2' p1 p2 => ?_)
  · obtain ⟨_, rfl⟩ := hp
    exact ⟨_, rfl⟩
  · obtain ⟨rfl, rfl⟩ := p1
    obtain ⟨rfl, rfl⟩ := p2
    refine ⟨?_, stay h1 h2⟩
    have hL := hS.l
    unfold lx ly
    by_cases hu0 : u = 0
    · rw [if_pos hu0, hL.2.1]
    · rw [if_neg hu0, hL.1]
set_option maxHeartbeats 1000000 in
theorem op_count (h : Two cI cZ cR cM t o1 o2 M) (ht : t < 2 ^ 19) (x : Int32) : Ct TT D cls (tyL cI cZ cR cM) l y_Bs_count b_Bs_count 2 (some .int) 1 23 0 0 [.ref o1, .int x] M (fun rv M' => (∃ v : Int32, rv = some (.int v)) ∧ (∃ fs, M' o2 = some (ob 5 fs)) ∧ Ct TT D cls (tyL cI cZ cR cM) l y_Md_count b_Md_count 2 (some .int) 1 23 0 0 [.ref o2, .int x] M' (fun rv2 M'' => rv2 = rv ∧ Two cI cZ cR cM (t + 3) o1 o2 M'')) := by
  obtain ⟨M1, M2, ad1, ad2, A, B, hd, rfl, rfl, rfl, h1, h2, hS⟩ := h
  have hn := hS.n
  have hz := hS.sizes
  have hu := hS.up (show t ≤ t + 3 by omega)
  have hses := hS.ses
  have stay : ∀ {M1' M2' : Mem}, R1 cI cR cM M1' ad1 A → R2 cI cZ M2' ad2 B → ∃ (ad1' ad2' : Nat → Nat) (A' : G1) (B' : G2), ad1' 0 = ad1 0 ∧ ad2' 0 = ad2 0 ∧ R1 cI cR cM M1' ad1' A' ∧ R2 cI cZ M2' ad2' B' ∧ Sim (t + 3) A' B' := fun r1 r2 => ⟨ad1, ad2, A, B, rfl, rfl, r1, r2, hu⟩
  refine op_of (P := fun rv => (∃ v : Int32, rv = some (.int v))) hd ⟨_, h2.o⟩ (ct_Bs_count h1 hn.1 x) (ct_Md_count h2 (A.N 0) hn.2 hn.1 x) (fun rv M' hp => ?_) (fun rv M1' rv2 M2' p1 p2 => ?_)
  · obtain ⟨_, rfl⟩ := hp
    exact ⟨_, rfl⟩
  · obtain ⟨rfl, rfl⟩ := p1
    obtain ⟨rfl, rfl⟩ := p2
    refine ⟨?_, stay h1 h2⟩
    rw [hS.count (by omega)]
end OPS
