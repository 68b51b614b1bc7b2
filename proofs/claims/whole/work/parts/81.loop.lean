/-! the law's loop -/
theorem room_ok {k n : Nat} (h1 : k ≤ 651652) (h2 : n ≤ 7147292) : k ≤ room_1.cells ∧ n ≤ room_1.slots := ⟨h1, h2⟩
theorem lg_cmp_self (v : Int64) : lg_cmp v v = 0 := by
  unfold lg_cmp
  rw [if_neg (show ¬ v > v from Int64.lt_irrefl), if_pos rfl]
set_option maxHeartbeats 8000000 in
set_option maxRecDepth 100000 in
theorem law_loop {cI cZ cR cM : ClassId} {Z : Zt} {b L : Nat} {xs : Nat → Int32} (C : Cx TT cls (tyL cI cZ cR cM) "BlockTargetSessionLaw" b_Lw_law 4 ret Z) (hX : va_X b L xs Z.s Z.s.heap) (hbl : b < Z.s.heap.size) (hbA : ¬ Z.A b) (hL : L ≤ 2050) (hend : ∀ (lv : List (Nat × Value)) (M : Mem) (k n : Nat), k ≤ 651652 → n ≤ 7147292 → V cls 4 room_1 Z 638 lv [.int 1] M k n) :
    ∀ (f j : Nat) (M : Mem) (o1 o2 : Nat), 4 * j ≤ L → L + 1 ≤ 4 * (j + f) → Two cI cZ cR cM (3 * j) o1 o2 M → V cls 4 room_1 Z 38 [(0, .ref b), (1, .ref o1), (2, .ref o2), (3, .int (nI (2 + 4 * j)))] [] M (47 + 2 * j) (2113 + 9 * j) := by
  intro f
  induction f with
  | zero =>
    intro j M o1 o2 h1 h2
    exact absurd h2 (by omega)
  | succ f ih =>
    intro j M o1 o2 hj hf hT
    refine v_iload_n C (i := 3) d_Lw_law_38 rfl rfl ?_
    refine v_aload_n C (i := 0) d_Lw_law_39 rfl rfl ?_
    refine v_slen C hX hbl hbA d_Lw_law_40 ?_
    refine v_iconst C (v := 4) d_Lw_law_41 (by decide) ?_
    refine v_isub C d_Lw_law_42 ?_
    refine v_icmp_gt C 637 d_Lw_law_43 (by decide) (fun _ => ?_) (fun hgo => ?_)
    · refine v_iconst C (v := 1) d_Lw_law_637 (by decide) ?_
      exact hend _ M _ _ (by omega) (by omega)
    · have hin : 2 + 4 * j + 4 ≤ L := loop_go hL (by omega) hgo
      have hnext : ∀ (M : Mem) (k n : Nat), Two cI cZ cR cM (3 * (j + 1)) o1 o2 M → k ≤ 47 + 2 * (j + 1) → n ≤ 2113 + 9 * (j + 1) → V cls 4 room_1 Z 631 [(0, .ref b), (1, .ref o1), (2, .ref o2), (3, .int (nI (2 + 4 * j)))] [] M k n := by
        intro M k n hT2 hk hn
        refine V.widen hk hn ?_
        refine v_iinc C (i := 3) (j := 3) (v := nI (2 + 4 * (j + 1))) (lv' := [(3, .int (nI (2 + 4 * (j + 1)))), (0, .ref b), (1, .ref o1), (2, .ref o2)]) d_Lw_law_631 rfl (nI_p4 (2 + 4 * j)) (by decide) rfl ?_
        refine v_goto C 38 d_Lw_law_634 (by decide) ?_
        refine V.pick (lv' := [(0, .ref b), (1, .ref o1), (2, .ref o2), (3, .int (nI (2 + 4 * (j + 1))))]) [1, 2, 3, 0] rfl ?_
        exact ih (j + 1) M o1 o2 (by omega) (by omega) hT2
      obtain ⟨fs1, ho1⟩ := hT.o1
      refine v_aload_n C (i := 0) d_Lw_law_46 rfl rfl ?_
      refine v_iload_n C (i := 3) d_Lw_law_47 rfl rfl ?_
      refine v_sld C hX hbl hbA (pk_in (2 + 4 * j) L (by omega)) d_Lw_law_48 ?_
      refine v_bipush C (v := 31) d_Lw_law_49 (by decide) ?_
      refine v_iand C d_Lw_law_51 ?_
      obtain ⟨c, hc, ec⟩ : ∃ c : Nat, c < 32 ∧ xs (Int32.toNatClampNeg (nI (2 + 4 * j))) &&& 31 = nI c := ⟨_, Nat.mod_lt _ (by decide), pk_and _ (m := 31) 5 (by decide)⟩
      refine V.eqst (st' := [.int (nI c)]) (by rw [ec]) ?_
      by_cases h18 : c < 18
      · rcases (show c = 0 ∨ c = 1 ∨ c = 2 ∨ c = 3 ∨ c = 4 ∨ c = 5 ∨ c = 6 ∨ c = 7 ∨ c = 8 ∨ c = 9 ∨ c = 10 ∨ c = 11 ∨ c = 12 ∨ c = 13 ∨ c = 14 ∨ c = 15 ∨ c = 16 ∨ c = 17 by omega) with rfl | rfl | rfl | rfl | rfl | rfl | rfl | rfl | rfl | rfl | rfl | rfl | rfl | rfl | rfl | rfl | rfl | rfl
        · refine v_tableIn C 140 d_Lw_law_52 (by decide) (by decide) rfl (by decide) ?_
          refine v_aload_n C (i := 1) d_Lw_law_140 rfl rfl ?_
          refine v_aload_n C (i := 0) d_Lw_law_141 rfl rfl ?_
          refine v_iload_n C (i := 3) d_Lw_law_142 rfl rfl ?_
          refine v_iconst C (v := 1) d_Lw_law_143 (by decide) ?_
          refine v_iadd C d_Lw_law_144 ?_
          refine V.eqst (st' := [.int (nI (2 + 4 * j + 1)), .ref b, .ref o1]) (by rw [nI_1]) ?_
          refine v_sld C hX hbl hbA (pk_in (2 + 4 * j + 1) L (by omega)) d_Lw_law_145 ?_
          refine V.eqst (st' := [.int (xs (2 + 4 * j + 1)), .ref o1]) (by rw [show Int32.toNatClampNeg (nI (2 + 4 * j + 1)) = 2 + 4 * j + 1 from pk_cl _ (hx := rfl)]) ?_
          refine v_aload_n C (i := 0) d_Lw_law_146 rfl rfl ?_
          refine v_iload_n C (i := 3) d_Lw_law_147 rfl rfl ?_
          refine v_iconst C (v := 2) d_Lw_law_148 (by decide) ?_
          refine v_iadd C d_Lw_law_149 ?_
          refine V.eqst (st' := [.int (nI (2 + 4 * j + 2)), .ref b, .int (xs (2 + 4 * j + 1)), .ref o1]) (by rw [nI_p2]) ?_
          refine v_sld C hX hbl hbA (pk_in (2 + 4 * j + 2) L (by omega)) d_Lw_law_150 ?_
          refine V.eqst (st' := [.int (xs (2 + 4 * j + 2)), .int (xs (2 + 4 * j + 1)), .ref o1]) (by rw [show Int32.toNatClampNeg (nI (2 + 4 * j + 2)) = 2 + 4 * j + 2 from pk_cl _ (hx := rfl)]) ?_
          refine v_aload_n C (i := 0) d_Lw_law_151 rfl rfl ?_
          refine v_iload_n C (i := 3) d_Lw_law_152 rfl rfl ?_
          refine v_iconst C (v := 3) d_Lw_law_153 (by decide) ?_
          refine v_iadd C d_Lw_law_154 ?_
          refine V.eqst (st' := [.int (nI (2 + 4 * j + 3)), .ref b, .int (xs (2 + 4 * j + 2)), .int (xs (2 + 4 * j + 1)), .ref o1]) (by rw [nI_p3]) ?_
          refine v_sld C hX hbl hbA (pk_in (2 + 4 * j + 3) L (by omega)) d_Lw_law_155 ?_
          refine V.eqst (st' := [.int (xs (2 + 4 * j + 3)), .int (xs (2 + 4 * j + 2)), .int (xs (2 + 4 * j + 1)), .ref o1]) (by rw [show Int32.toNatClampNeg (nI (2 + 4 * j + 3)) = 2 + 4 * j + 3 from pk_cl _ (hx := rfl)]) ?_
          refine v_callV C (As := [.int (xs (2 + 4 * j + 1)), .int (xs (2 + 4 * j + 2)), .int (xs (2 + 4 * j + 3))]) (rest := []) ho1 cl_Bs rfl w_138 w_139 (op_write hT (by omega) (xs (2 + 4 * j + 1)) (xs (2 + 4 * j + 2)) (xs (2 + 4 * j + 3))) (Nat.le_of_ble_eq_true rfl) (Nat.le_of_ble_eq_true rfl) w_140 w_1 hy_Bs_write w_137 rfl (Nat.le_of_ble_eq_true rfl) (room_ok (by omega) (by omega)) d_Lw_law_156 (fun rv M hp => ?_)
          obtain ⟨⟨v, rfl⟩, ⟨fs2, ho2⟩, ct2⟩ := hp
          refine V.eqst (st' := [.int v]) rfl ?_
          refine v_aload_n C (i := 2) d_Lw_law_159 rfl rfl ?_
          refine v_aload_n C (i := 0) d_Lw_law_160 rfl rfl ?_
          refine v_iload_n C (i := 3) d_Lw_law_161 rfl rfl ?_
          refine v_iconst C (v := 1) d_Lw_law_162 (by decide) ?_
          refine v_iadd C d_Lw_law_163 ?_
          refine V.eqst (st' := [.int (nI (2 + 4 * j + 1)), .ref b, .ref o2, .int v]) (by rw [nI_1]) ?_
          refine v_sld C hX hbl hbA (pk_in (2 + 4 * j + 1) L (by omega)) d_Lw_law_164 ?_
          refine V.eqst (st' := [.int (xs (2 + 4 * j + 1)), .ref o2, .int v]) (by rw [show Int32.toNatClampNeg (nI (2 + 4 * j + 1)) = 2 + 4 * j + 1 from pk_cl _ (hx := rfl)]) ?_
          refine v_aload_n C (i := 0) d_Lw_law_165 rfl rfl ?_
          refine v_iload_n C (i := 3) d_Lw_law_166 rfl rfl ?_
          refine v_iconst C (v := 2) d_Lw_law_167 (by decide) ?_
          refine v_iadd C d_Lw_law_168 ?_
          refine V.eqst (st' := [.int (nI (2 + 4 * j + 2)), .ref b, .int (xs (2 + 4 * j + 1)), .ref o2, .int v]) (by rw [nI_p2]) ?_
          refine v_sld C hX hbl hbA (pk_in (2 + 4 * j + 2) L (by omega)) d_Lw_law_169 ?_
          refine V.eqst (st' := [.int (xs (2 + 4 * j + 2)), .int (xs (2 + 4 * j + 1)), .ref o2, .int v]) (by rw [show Int32.toNatClampNeg (nI (2 + 4 * j + 2)) = 2 + 4 * j + 2 from pk_cl _ (hx := rfl)]) ?_
          refine v_aload_n C (i := 0) d_Lw_law_170 rfl rfl ?_
          refine v_iload_n C (i := 3) d_Lw_law_171 rfl rfl ?_
          refine v_iconst C (v := 3) d_Lw_law_172 (by decide) ?_
          refine v_iadd C d_Lw_law_173 ?_
          refine V.eqst (st' := [.int (nI (2 + 4 * j + 3)), .ref b, .int (xs (2 + 4 * j + 2)), .int (xs (2 + 4 * j + 1)), .ref o2, .int v]) (by rw [nI_p3]) ?_
          refine v_sld C hX hbl hbA (pk_in (2 + 4 * j + 3) L (by omega)) d_Lw_law_174 ?_
          refine V.eqst (st' := [.int (xs (2 + 4 * j + 3)), .int (xs (2 + 4 * j + 2)), .int (xs (2 + 4 * j + 1)), .ref o2, .int v]) (by rw [show Int32.toNatClampNeg (nI (2 + 4 * j + 3)) = 2 + 4 * j + 3 from pk_cl _ (hx := rfl)]) ?_
          refine v_callV C (As := [.int (xs (2 + 4 * j + 1)), .int (xs (2 + 4 * j + 2)), .int (xs (2 + 4 * j + 3))]) (rest := [.int v]) ho2 cl_Md rfl w_449 w_450 (ct2) (Nat.le_of_ble_eq_true rfl) (Nat.le_of_ble_eq_true rfl) w_451 w_6 hy_Md_write w_448 rfl (Nat.le_of_ble_eq_true rfl) (room_ok (by omega) (by omega)) d_Lw_law_175 (fun rv M hp => ?_)
          obtain ⟨rfl, hT2⟩ := hp
          refine V.eqst (st' := [.int v, .int v]) rfl ?_
          refine v_icmp_eq C 631 d_Lw_law_178 (by decide) (fun _ => ?_) (fun z => absurd rfl z)
          exact hnext M _ _ (by rw [show 3 * (j + 1) = 3 * j + 3 by omega]; exact hT2) (by omega) (by omega)
        · refine v_tableIn C 183 d_Lw_law_52 (by decide) (by decide) rfl (by decide) ?_
          refine v_aload_n C (i := 1) d_Lw_law_183 rfl rfl ?_
          refine v_aload_n C (i := 0) d_Lw_law_184 rfl rfl ?_
          refine v_iload_n C (i := 3) d_Lw_law_185 rfl rfl ?_
          refine v_iconst C (v := 1) d_Lw_law_186 (by decide) ?_
          refine v_iadd C d_Lw_law_187 ?_
          refine V.eqst (st' := [.int (nI (2 + 4 * j + 1)), .ref b, .ref o1]) (by rw [nI_1]) ?_
          refine v_sld C hX hbl hbA (pk_in (2 + 4 * j + 1) L (by omega)) d_Lw_law_188 ?_
          refine V.eqst (st' := [.int (xs (2 + 4 * j + 1)), .ref o1]) (by rw [show Int32.toNatClampNeg (nI (2 + 4 * j + 1)) = 2 + 4 * j + 1 from pk_cl _ (hx := rfl)]) ?_
          refine v_aload_n C (i := 0) d_Lw_law_189 rfl rfl ?_
          refine v_iload_n C (i := 3) d_Lw_law_190 rfl rfl ?_
          refine v_iconst C (v := 2) d_Lw_law_191 (by decide) ?_
          refine v_iadd C d_Lw_law_192 ?_
          refine V.eqst (st' := [.int (nI (2 + 4 * j + 2)), .ref b, .int (xs (2 + 4 * j + 1)), .ref o1]) (by rw [nI_p2]) ?_
          refine v_sld C hX hbl hbA (pk_in (2 + 4 * j + 2) L (by omega)) d_Lw_law_193 ?_
          refine V.eqst (st' := [.int (xs (2 + 4 * j + 2)), .int (xs (2 + 4 * j + 1)), .ref o1]) (by rw [show Int32.toNatClampNeg (nI (2 + 4 * j + 2)) = 2 + 4 * j + 2 from pk_cl _ (hx := rfl)]) ?_
          refine v_callV C (As := [.int (xs (2 + 4 * j + 1)), .int (xs (2 + 4 * j + 2))]) (rest := []) ho1 cl_Bs rfl w_182 w_183 (op_read hT (by omega) (xs (2 + 4 * j + 1)) (xs (2 + 4 * j + 2))) (Nat.le_of_ble_eq_true rfl) (Nat.le_of_ble_eq_true rfl) w_184 w_1 hy_Bs_read w_181 rfl (Nat.le_of_ble_eq_true rfl) (room_ok (by omega) (by omega)) d_Lw_law_194 (fun rv M hp => ?_)
          obtain ⟨⟨v, rfl⟩, ⟨fs2, ho2⟩, ct2⟩ := hp
          refine V.eqst (st' := [.int v]) rfl ?_
          refine v_aload_n C (i := 2) d_Lw_law_197 rfl rfl ?_
          refine v_aload_n C (i := 0) d_Lw_law_198 rfl rfl ?_
          refine v_iload_n C (i := 3) d_Lw_law_199 rfl rfl ?_
          refine v_iconst C (v := 1) d_Lw_law_200 (by decide) ?_
          refine v_iadd C d_Lw_law_201 ?_
          refine V.eqst (st' := [.int (nI (2 + 4 * j + 1)), .ref b, .ref o2, .int v]) (by rw [nI_1]) ?_
          refine v_sld C hX hbl hbA (pk_in (2 + 4 * j + 1) L (by omega)) d_Lw_law_202 ?_
          refine V.eqst (st' := [.int (xs (2 + 4 * j + 1)), .ref o2, .int v]) (by rw [show Int32.toNatClampNeg (nI (2 + 4 * j + 1)) = 2 + 4 * j + 1 from pk_cl _ (hx := rfl)]) ?_
          refine v_aload_n C (i := 0) d_Lw_law_203 rfl rfl ?_
          refine v_iload_n C (i := 3) d_Lw_law_204 rfl rfl ?_
          refine v_iconst C (v := 2) d_Lw_law_205 (by decide) ?_
          refine v_iadd C d_Lw_law_206 ?_
          refine V.eqst (st' := [.int (nI (2 + 4 * j + 2)), .ref b, .int (xs (2 + 4 * j + 1)), .ref o2, .int v]) (by rw [nI_p2]) ?_
          refine v_sld C hX hbl hbA (pk_in (2 + 4 * j + 2) L (by omega)) d_Lw_law_207 ?_
          refine V.eqst (st' := [.int (xs (2 + 4 * j + 2)), .int (xs (2 + 4 * j + 1)), .ref o2, .int v]) (by rw [show Int32.toNatClampNeg (nI (2 + 4 * j + 2)) = 2 + 4 * j + 2 from pk_cl _ (hx := rfl)]) ?_
          refine v_callV C (As := [.int (xs (2 + 4 * j + 1)), .int (xs (2 + 4 * j + 2))]) (rest := [.int v]) ho2 cl_Md rfl w_461 w_462 (ct2) (Nat.le_of_ble_eq_true rfl) (Nat.le_of_ble_eq_true rfl) w_463 w_6 hy_Md_read w_460 rfl (Nat.le_of_ble_eq_true rfl) (room_ok (by omega) (by omega)) d_Lw_law_208 (fun rv M hp => ?_)
          obtain ⟨rfl, hT2⟩ := hp
          refine V.eqst (st' := [.int v, .int v]) rfl ?_
          refine v_icmp_eq C 631 d_Lw_law_211 (by decide) (fun _ => ?_) (fun z => absurd rfl z)
          exact hnext M _ _ (by rw [show 3 * (j + 1) = 3 * j + 3 by omega]; exact hT2) (by omega) (by omega)
        · refine v_tableIn C 216 d_Lw_law_52 (by decide) (by decide) rfl (by decide) ?_
          refine v_aload_n C (i := 1) d_Lw_law_216 rfl rfl ?_
          refine v_callV C (As := []) (rest := []) ho1 cl_Bs rfl w_186 w_187 (op_sync hT (by omega)) (Nat.le_of_ble_eq_true rfl) (Nat.le_of_ble_eq_true rfl) w_188 w_1 hy_Bs_sync w_185 rfl (Nat.le_of_ble_eq_true rfl) (room_ok (by omega) (by omega)) d_Lw_law_217 (fun rv M hp => ?_)
          obtain ⟨⟨v, rfl⟩, ⟨fs2, ho2⟩, ct2⟩ := hp
          refine V.eqst (st' := [.int v]) rfl ?_
          refine v_aload_n C (i := 2) d_Lw_law_220 rfl rfl ?_
          refine v_callV C (As := []) (rest := [.int v]) ho2 cl_Md rfl w_465 w_466 (ct2) (Nat.le_of_ble_eq_true rfl) (Nat.le_of_ble_eq_true rfl) w_467 w_6 hy_Md_sync w_464 rfl (Nat.le_of_ble_eq_true rfl) (room_ok (by omega) (by omega)) d_Lw_law_221 (fun rv M hp => ?_)
          obtain ⟨rfl, hT2⟩ := hp
          refine V.eqst (st' := [.int v, .int v]) rfl ?_
          refine v_icmp_eq C 631 d_Lw_law_224 (by decide) (fun _ => ?_) (fun z => absurd rfl z)
          exact hnext M _ _ (by rw [show 3 * (j + 1) = 3 * j + 3 by omega]; exact hT2) (by omega) (by omega)
        · refine v_tableIn C 229 d_Lw_law_52 (by decide) (by decide) rfl (by decide) ?_
          refine v_aload_n C (i := 1) d_Lw_law_229 rfl rfl ?_
          refine v_callV C (As := []) (rest := []) ho1 cl_Bs rfl w_190 w_191 (op_send hT (by omega)) (Nat.le_of_ble_eq_true rfl) (Nat.le_of_ble_eq_true rfl) w_192 w_1 hy_Bs_send w_189 rfl (Nat.le_of_ble_eq_true rfl) (room_ok (by omega) (by omega)) d_Lw_law_230 (fun rv M hp => ?_)
          obtain ⟨⟨v, rfl⟩, ⟨fs2, ho2⟩, ct2⟩ := hp
          refine V.eqst (st' := [.int v]) rfl ?_
          refine v_aload_n C (i := 2) d_Lw_law_233 rfl rfl ?_
          refine v_callV C (As := []) (rest := [.int v]) ho2 cl_Md rfl w_477 w_478 (ct2) (Nat.le_of_ble_eq_true rfl) (Nat.le_of_ble_eq_true rfl) w_479 w_6 hy_Md_send w_476 rfl (Nat.le_of_ble_eq_true rfl) (room_ok (by omega) (by omega)) d_Lw_law_234 (fun rv M hp => ?_)
          obtain ⟨rfl, hT2⟩ := hp
          refine V.eqst (st' := [.int v, .int v]) rfl ?_
          refine v_icmp_eq C 631 d_Lw_law_237 (by decide) (fun _ => ?_) (fun z => absurd rfl z)
          exact hnext M _ _ (by rw [show 3 * (j + 1) = 3 * j + 3 by omega]; exact hT2) (by omega) (by omega)
        · refine v_tableIn C 242 d_Lw_law_52 (by decide) (by decide) rfl (by decide) ?_
          by_cases cu : xs (2 + 4 * j + 1) = 0
          · refine v_aload_n C (i := 1) d_Lw_law_242 rfl rfl ?_
            refine v_aload_n C (i := 0) d_Lw_law_243 rfl rfl ?_
            refine v_iload_n C (i := 3) d_Lw_law_244 rfl rfl ?_
            refine v_iconst C (v := 1) d_Lw_law_245 (by decide) ?_
            refine v_iadd C d_Lw_law_246 ?_
            refine V.eqst (st' := [.int (nI (2 + 4 * j + 1)), .ref b, .ref o1]) (by rw [nI_1]) ?_
            refine v_sld C hX hbl hbA (pk_in (2 + 4 * j + 1) L (by omega)) d_Lw_law_247 ?_
            refine V.eqst (st' := [.int (xs (2 + 4 * j + 1)), .ref o1]) (by rw [show Int32.toNatClampNeg (nI (2 + 4 * j + 1)) = 2 + 4 * j + 1 from pk_cl _ (hx := rfl)]) ?_
            refine v_if_eq C 255 d_Lw_law_248 (by decide) (fun _ => ?_) (fun z => absurd cu z)
            refine v_iconst C (v := 0) d_Lw_law_255 (by decide) ?_
            refine v_callV C (As := [.int 0]) (rest := []) ho1 cl_Bs rfl w_210 w_211 (op_deliver hT (by omega) 0) (Nat.le_of_ble_eq_true rfl) (Nat.le_of_ble_eq_true rfl) w_212 w_1 hy_Bs_deliver w_209 rfl (Nat.le_of_ble_eq_true rfl) (room_ok (by omega) (by omega)) d_Lw_law_256 (fun rv M hp => ?_)
            obtain ⟨⟨v, rfl⟩, ⟨fs2, ho2⟩, ct2⟩ := hp
            refine V.eqst (st' := [.int v]) rfl ?_
            refine v_aload_n C (i := 2) d_Lw_law_259 rfl rfl ?_
            refine v_aload_n C (i := 0) d_Lw_law_260 rfl rfl ?_
            refine v_iload_n C (i := 3) d_Lw_law_261 rfl rfl ?_
            refine v_iconst C (v := 1) d_Lw_law_262 (by decide) ?_
            refine v_iadd C d_Lw_law_263 ?_
            refine V.eqst (st' := [.int (nI (2 + 4 * j + 1)), .ref b, .ref o2, .int v]) (by rw [nI_1]) ?_
            refine v_sld C hX hbl hbA (pk_in (2 + 4 * j + 1) L (by omega)) d_Lw_law_264 ?_
            refine V.eqst (st' := [.int (xs (2 + 4 * j + 1)), .ref o2, .int v]) (by rw [show Int32.toNatClampNeg (nI (2 + 4 * j + 1)) = 2 + 4 * j + 1 from pk_cl _ (hx := rfl)]) ?_
            refine v_if_eq C 272 d_Lw_law_265 (by decide) (fun _ => ?_) (fun z => absurd cu z)
            refine v_iconst C (v := 0) d_Lw_law_272 (by decide) ?_
            refine v_callV C (As := [.int 0]) (rest := [.int v]) ho2 cl_Md rfl w_489 w_490 (ct2) (Nat.le_of_ble_eq_true rfl) (Nat.le_of_ble_eq_true rfl) w_491 w_6 hy_Md_deliver w_488 rfl (Nat.le_of_ble_eq_true rfl) (room_ok (by omega) (by omega)) d_Lw_law_273 (fun rv M hp => ?_)
            obtain ⟨rfl, hT2⟩ := hp
            refine V.eqst (st' := [.int v, .int v]) rfl ?_
            refine v_icmp_eq C 631 d_Lw_law_276 (by decide) (fun _ => ?_) (fun z => absurd rfl z)
            exact hnext M _ _ (by rw [show 3 * (j + 1) = 3 * j + 3 by omega]; exact hT2) (by omega) (by omega)
          · refine v_aload_n C (i := 1) d_Lw_law_242 rfl rfl ?_
            refine v_aload_n C (i := 0) d_Lw_law_243 rfl rfl ?_
            refine v_iload_n C (i := 3) d_Lw_law_244 rfl rfl ?_
            refine v_iconst C (v := 1) d_Lw_law_245 (by decide) ?_
            refine v_iadd C d_Lw_law_246 ?_
            refine V.eqst (st' := [.int (nI (2 + 4 * j + 1)), .ref b, .ref o1]) (by rw [nI_1]) ?_
            refine v_sld C hX hbl hbA (pk_in (2 + 4 * j + 1) L (by omega)) d_Lw_law_247 ?_
            refine V.eqst (st' := [.int (xs (2 + 4 * j + 1)), .ref o1]) (by rw [show Int32.toNatClampNeg (nI (2 + 4 * j + 1)) = 2 + 4 * j + 1 from pk_cl _ (hx := rfl)]) ?_
            refine v_if_eq C 255 d_Lw_law_248 (by decide) (fun z => absurd z cu) (fun _ => ?_)
            refine v_iconst C (v := 1) d_Lw_law_251 (by decide) ?_
            refine v_goto C 256 d_Lw_law_252 (by decide) ?_
            refine v_callV C (As := [.int 1]) (rest := []) ho1 cl_Bs rfl w_210 w_211 (op_deliver hT (by omega) 1) (Nat.le_of_ble_eq_true rfl) (Nat.le_of_ble_eq_true rfl) w_212 w_1 hy_Bs_deliver w_209 rfl (Nat.le_of_ble_eq_true rfl) (room_ok (by omega) (by omega)) d_Lw_law_256 (fun rv M hp => ?_)
            obtain ⟨⟨v, rfl⟩, ⟨fs2, ho2⟩, ct2⟩ := hp
            refine V.eqst (st' := [.int v]) rfl ?_
            refine v_aload_n C (i := 2) d_Lw_law_259 rfl rfl ?_
            refine v_aload_n C (i := 0) d_Lw_law_260 rfl rfl ?_
            refine v_iload_n C (i := 3) d_Lw_law_261 rfl rfl ?_
            refine v_iconst C (v := 1) d_Lw_law_262 (by decide) ?_
            refine v_iadd C d_Lw_law_263 ?_
            refine V.eqst (st' := [.int (nI (2 + 4 * j + 1)), .ref b, .ref o2, .int v]) (by rw [nI_1]) ?_
            refine v_sld C hX hbl hbA (pk_in (2 + 4 * j + 1) L (by omega)) d_Lw_law_264 ?_
            refine V.eqst (st' := [.int (xs (2 + 4 * j + 1)), .ref o2, .int v]) (by rw [show Int32.toNatClampNeg (nI (2 + 4 * j + 1)) = 2 + 4 * j + 1 from pk_cl _ (hx := rfl)]) ?_
            refine v_if_eq C 272 d_Lw_law_265 (by decide) (fun z => absurd z cu) (fun _ => ?_)
            refine v_iconst C (v := 1) d_Lw_law_268 (by decide) ?_
            refine v_goto C 273 d_Lw_law_269 (by decide) ?_
            refine v_callV C (As := [.int 1]) (rest := [.int v]) ho2 cl_Md rfl w_489 w_490 (ct2) (Nat.le_of_ble_eq_true rfl) (Nat.le_of_ble_eq_true rfl) w_491 w_6 hy_Md_deliver w_488 rfl (Nat.le_of_ble_eq_true rfl) (room_ok (by omega) (by omega)) d_Lw_law_273 (fun rv M hp => ?_)
            obtain ⟨rfl, hT2⟩ := hp
            refine V.eqst (st' := [.int v, .int v]) rfl ?_
            refine v_icmp_eq C 631 d_Lw_law_276 (by decide) (fun _ => ?_) (fun z => absurd rfl z)
            exact hnext M _ _ (by rw [show 3 * (j + 1) = 3 * j + 3 by omega]; exact hT2) (by omega) (by omega)
        · refine v_tableIn C 281 d_Lw_law_52 (by decide) (by decide) rfl (by decide) ?_
          by_cases cu : xs (2 + 4 * j + 1) = 0
          · refine v_aload_n C (i := 1) d_Lw_law_281 rfl rfl ?_
            refine v_aload_n C (i := 0) d_Lw_law_282 rfl rfl ?_
            refine v_iload_n C (i := 3) d_Lw_law_283 rfl rfl ?_
            refine v_iconst C (v := 1) d_Lw_law_284 (by decide) ?_
            refine v_iadd C d_Lw_law_285 ?_
            refine V.eqst (st' := [.int (nI (2 + 4 * j + 1)), .ref b, .ref o1]) (by rw [nI_1]) ?_
            refine v_sld C hX hbl hbA (pk_in (2 + 4 * j + 1) L (by omega)) d_Lw_law_286 ?_
            refine V.eqst (st' := [.int (xs (2 + 4 * j + 1)), .ref o1]) (by rw [show Int32.toNatClampNeg (nI (2 + 4 * j + 1)) = 2 + 4 * j + 1 from pk_cl _ (hx := rfl)]) ?_
            refine v_if_eq C 294 d_Lw_law_287 (by decide) (fun _ => ?_) (fun z => absurd cu z)
            refine v_iconst C (v := 0) d_Lw_law_294 (by decide) ?_
            refine v_aload_n C (i := 0) d_Lw_law_295 rfl rfl ?_
            refine v_iload_n C (i := 3) d_Lw_law_296 rfl rfl ?_
            refine v_iconst C (v := 2) d_Lw_law_297 (by decide) ?_
            refine v_iadd C d_Lw_law_298 ?_
            refine V.eqst (st' := [.int (nI (2 + 4 * j + 2)), .ref b, .int 0, .ref o1]) (by rw [nI_p2]) ?_
            refine v_sld C hX hbl hbA (pk_in (2 + 4 * j + 2) L (by omega)) d_Lw_law_299 ?_
            refine V.eqst (st' := [.int (xs (2 + 4 * j + 2)), .int 0, .ref o1]) (by rw [show Int32.toNatClampNeg (nI (2 + 4 * j + 2)) = 2 + 4 * j + 2 from pk_cl _ (hx := rfl)]) ?_
            refine v_callV C (As := [.int 0, .int (xs (2 + 4 * j + 2))]) (rest := []) ho1 cl_Bs rfl w_293 w_294 (op_damage hT (by omega) 0 (xs (2 + 4 * j + 2))) (Nat.le_of_ble_eq_true rfl) (Nat.le_of_ble_eq_true rfl) w_295 w_1 hy_Bs_damage w_292 rfl (Nat.le_of_ble_eq_true rfl) (room_ok (by omega) (by omega)) d_Lw_law_300 (fun rv M hp => ?_)
            obtain ⟨⟨v, rfl⟩, ⟨fs2, ho2⟩, ct2⟩ := hp
            refine V.eqst (st' := [.int v]) rfl ?_
            refine v_aload_n C (i := 2) d_Lw_law_303 rfl rfl ?_
            refine v_aload_n C (i := 0) d_Lw_law_304 rfl rfl ?_
            refine v_iload_n C (i := 3) d_Lw_law_305 rfl rfl ?_
            refine v_iconst C (v := 1) d_Lw_law_306 (by decide) ?_
            refine v_iadd C d_Lw_law_307 ?_
            refine V.eqst (st' := [.int (nI (2 + 4 * j + 1)), .ref b, .ref o2, .int v]) (by rw [nI_1]) ?_
            refine v_sld C hX hbl hbA (pk_in (2 + 4 * j + 1) L (by omega)) d_Lw_law_308 ?_
            refine V.eqst (st' := [.int (xs (2 + 4 * j + 1)), .ref o2, .int v]) (by rw [show Int32.toNatClampNeg (nI (2 + 4 * j + 1)) = 2 + 4 * j + 1 from pk_cl _ (hx := rfl)]) ?_
            refine v_if_eq C 316 d_Lw_law_309 (by decide) (fun _ => ?_) (fun z => absurd cu z)
            refine v_iconst C (v := 0) d_Lw_law_316 (by decide) ?_
            refine v_aload_n C (i := 0) d_Lw_law_317 rfl rfl ?_
            refine v_iload_n C (i := 3) d_Lw_law_318 rfl rfl ?_
            refine v_iconst C (v := 2) d_Lw_law_319 (by decide) ?_
            refine v_iadd C d_Lw_law_320 ?_
            refine V.eqst (st' := [.int (nI (2 + 4 * j + 2)), .ref b, .int 0, .ref o2, .int v]) (by rw [nI_p2]) ?_
            refine v_sld C hX hbl hbA (pk_in (2 + 4 * j + 2) L (by omega)) d_Lw_law_321 ?_
            refine V.eqst (st' := [.int (xs (2 + 4 * j + 2)), .int 0, .ref o2, .int v]) (by rw [show Int32.toNatClampNeg (nI (2 + 4 * j + 2)) = 2 + 4 * j + 2 from pk_cl _ (hx := rfl)]) ?_
            refine v_callV C (As := [.int 0, .int (xs (2 + 4 * j + 2))]) (rest := [.int v]) ho2 cl_Md rfl w_526 w_527 (ct2) (Nat.le_of_ble_eq_true rfl) (Nat.le_of_ble_eq_true rfl) w_528 w_6 hy_Md_damage w_525 rfl (Nat.le_of_ble_eq_true rfl) (room_ok (by omega) (by omega)) d_Lw_law_322 (fun rv M hp => ?_)
            obtain ⟨rfl, hT2⟩ := hp
            refine V.eqst (st' := [.int v, .int v]) rfl ?_
            refine v_icmp_eq C 631 d_Lw_law_325 (by decide) (fun _ => ?_) (fun z => absurd rfl z)
            exact hnext M _ _ (by rw [show 3 * (j + 1) = 3 * j + 3 by omega]; exact hT2) (by omega) (by omega)
          · refine v_aload_n C (i := 1) d_Lw_law_281 rfl rfl ?_
            refine v_aload_n C (i := 0) d_Lw_law_282 rfl rfl ?_
            refine v_iload_n C (i := 3) d_Lw_law_283 rfl rfl ?_
            refine v_iconst C (v := 1) d_Lw_law_284 (by decide) ?_
            refine v_iadd C d_Lw_law_285 ?_
            refine V.eqst (st' := [.int (nI (2 + 4 * j + 1)), .ref b, .ref o1]) (by rw [nI_1]) ?_
            refine v_sld C hX hbl hbA (pk_in (2 + 4 * j + 1) L (by omega)) d_Lw_law_286 ?_
            refine V.eqst (st' := [.int (xs (2 + 4 * j + 1)), .ref o1]) (by rw [show Int32.toNatClampNeg (nI (2 + 4 * j + 1)) = 2 + 4 * j + 1 from pk_cl _ (hx := rfl)]) ?_
            refine v_if_eq C 294 d_Lw_law_287 (by decide) (fun z => absurd z cu) (fun _ => ?_)
            refine v_iconst C (v := 1) d_Lw_law_290 (by decide) ?_
            refine v_goto C 295 d_Lw_law_291 (by decide) ?_
            refine v_aload_n C (i := 0) d_Lw_law_295 rfl rfl ?_
            refine v_iload_n C (i := 3) d_Lw_law_296 rfl rfl ?_
            refine v_iconst C (v := 2) d_Lw_law_297 (by decide) ?_
            refine v_iadd C d_Lw_law_298 ?_
            refine V.eqst (st' := [.int (nI (2 + 4 * j + 2)), .ref b, .int 1, .ref o1]) (by rw [nI_p2]) ?_
            refine v_sld C hX hbl hbA (pk_in (2 + 4 * j + 2) L (by omega)) d_Lw_law_299 ?_
            refine V.eqst (st' := [.int (xs (2 + 4 * j + 2)), .int 1, .ref o1]) (by rw [show Int32.toNatClampNeg (nI (2 + 4 * j + 2)) = 2 + 4 * j + 2 from pk_cl _ (hx := rfl)]) ?_
            refine v_callV C (As := [.int 1, .int (xs (2 + 4 * j + 2))]) (rest := []) ho1 cl_Bs rfl w_293 w_294 (op_damage hT (by omega) 1 (xs (2 + 4 * j + 2))) (Nat.le_of_ble_eq_true rfl) (Nat.le_of_ble_eq_true rfl) w_295 w_1 hy_Bs_damage w_292 rfl (Nat.le_of_ble_eq_true rfl) (room_ok (by omega) (by omega)) d_Lw_law_300 (fun rv M hp => ?_)
            obtain ⟨⟨v, rfl⟩, ⟨fs2, ho2⟩, ct2⟩ := hp
            refine V.eqst (st' := [.int v]) rfl ?_
            refine v_aload_n C (i := 2) d_Lw_law_303 rfl rfl ?_
            refine v_aload_n C (i := 0) d_Lw_law_304 rfl rfl ?_
            refine v_iload_n C (i := 3) d_Lw_law_305 rfl rfl ?_
            refine v_iconst C (v := 1) d_Lw_law_306 (by decide) ?_
            refine v_iadd C d_Lw_law_307 ?_
            refine V.eqst (st' := [.int (nI (2 + 4 * j + 1)), .ref b, .ref o2, .int v]) (by rw [nI_1]) ?_
            refine v_sld C hX hbl hbA (pk_in (2 + 4 * j + 1) L (by omega)) d_Lw_law_308 ?_
            refine V.eqst (st' := [.int (xs (2 + 4 * j + 1)), .ref o2, .int v]) (by rw [show Int32.toNatClampNeg (nI (2 + 4 * j + 1)) = 2 + 4 * j + 1 from pk_cl _ (hx := rfl)]) ?_
            refine v_if_eq C 316 d_Lw_law_309 (by decide) (fun z => absurd z cu) (fun _ => ?_)
            refine v_iconst C (v := 1) d_Lw_law_312 (by decide) ?_
            refine v_goto C 317 d_Lw_law_313 (by decide) ?_
            refine v_aload_n C (i := 0) d_Lw_law_317 rfl rfl ?_
            refine v_iload_n C (i := 3) d_Lw_law_318 rfl rfl ?_
            refine v_iconst C (v := 2) d_Lw_law_319 (by decide) ?_
            refine v_iadd C d_Lw_law_320 ?_
            refine V.eqst (st' := [.int (nI (2 + 4 * j + 2)), .ref b, .int 1, .ref o2, .int v]) (by rw [nI_p2]) ?_
            refine v_sld C hX hbl hbA (pk_in (2 + 4 * j + 2) L (by omega)) d_Lw_law_321 ?_
            refine V.eqst (st' := [.int (xs (2 + 4 * j + 2)), .int 1, .ref o2, .int v]) (by rw [show Int32.toNatClampNeg (nI (2 + 4 * j + 2)) = 2 + 4 * j + 2 from pk_cl _ (hx := rfl)]) ?_
            refine v_callV C (As := [.int 1, .int (xs (2 + 4 * j + 2))]) (rest := [.int v]) ho2 cl_Md rfl w_526 w_527 (ct2) (Nat.le_of_ble_eq_true rfl) (Nat.le_of_ble_eq_true rfl) w_528 w_6 hy_Md_damage w_525 rfl (Nat.le_of_ble_eq_true rfl) (room_ok (by omega) (by omega)) d_Lw_law_322 (fun rv M hp => ?_)
            obtain ⟨rfl, hT2⟩ := hp
            refine V.eqst (st' := [.int v, .int v]) rfl ?_
            refine v_icmp_eq C 631 d_Lw_law_325 (by decide) (fun _ => ?_) (fun z => absurd rfl z)
            exact hnext M _ _ (by rw [show 3 * (j + 1) = 3 * j + 3 by omega]; exact hT2) (by omega) (by omega)
        · refine v_tableIn C 330 d_Lw_law_52 (by decide) (by decide) rfl (by decide) ?_
          refine v_aload_n C (i := 1) d_Lw_law_330 rfl rfl ?_
          refine v_callV C (As := []) (rest := []) ho1 cl_Bs rfl w_301 w_302 (op_drop hT (by omega)) (Nat.le_of_ble_eq_true rfl) (Nat.le_of_ble_eq_true rfl) w_303 w_1 hy_Bs_drop w_300 rfl (Nat.le_of_ble_eq_true rfl) (room_ok (by omega) (by omega)) d_Lw_law_331 (fun rv M hp => ?_)
          obtain ⟨⟨v, rfl⟩, ⟨fs2, ho2⟩, ct2⟩ := hp
          refine V.eqst (st' := [.int v]) rfl ?_
          refine v_aload_n C (i := 2) d_Lw_law_334 rfl rfl ?_
          refine v_callV C (As := []) (rest := [.int v]) ho2 cl_Md rfl w_530 w_531 (ct2) (Nat.le_of_ble_eq_true rfl) (Nat.le_of_ble_eq_true rfl) w_532 w_6 hy_Md_drop w_529 rfl (Nat.le_of_ble_eq_true rfl) (room_ok (by omega) (by omega)) d_Lw_law_335 (fun rv M hp => ?_)
          obtain ⟨rfl, hT2⟩ := hp
          refine V.eqst (st' := [.int v, .int v]) rfl ?_
          refine v_icmp_eq C 631 d_Lw_law_338 (by decide) (fun _ => ?_) (fun z => absurd rfl z)
          exact hnext M _ _ (by rw [show 3 * (j + 1) = 3 * j + 3 by omega]; exact hT2) (by omega) (by omega)
        · refine v_tableIn C 343 d_Lw_law_52 (by decide) (by decide) rfl (by decide) ?_
          refine v_aload_n C (i := 1) d_Lw_law_343 rfl rfl ?_
          refine v_callV C (As := []) (rest := []) ho1 cl_Bs rfl w_305 w_306 (op_crash hT (by omega)) (Nat.le_of_ble_eq_true rfl) (Nat.le_of_ble_eq_true rfl) w_307 w_1 hy_Bs_crash w_304 rfl (Nat.le_of_ble_eq_true rfl) (room_ok (by omega) (by omega)) d_Lw_law_344 (fun rv M hp => ?_)
          obtain ⟨⟨v, rfl⟩, ⟨fs2, ho2⟩, ct2⟩ := hp
          refine V.eqst (st' := [.int v]) rfl ?_
          refine v_aload_n C (i := 2) d_Lw_law_347 rfl rfl ?_
          refine v_callV C (As := []) (rest := [.int v]) ho2 cl_Md rfl w_534 w_535 (ct2) (Nat.le_of_ble_eq_true rfl) (Nat.le_of_ble_eq_true rfl) w_536 w_6 hy_Md_crash w_533 rfl (Nat.le_of_ble_eq_true rfl) (room_ok (by omega) (by omega)) d_Lw_law_348 (fun rv M hp => ?_)
          obtain ⟨rfl, hT2⟩ := hp
          refine V.eqst (st' := [.int v, .int v]) rfl ?_
          refine v_icmp_eq C 631 d_Lw_law_351 (by decide) (fun _ => ?_) (fun z => absurd rfl z)
          exact hnext M _ _ (by rw [show 3 * (j + 1) = 3 * j + 3 by omega]; exact hT2) (by omega) (by omega)
        · refine v_tableIn C 356 d_Lw_law_52 (by decide) (by decide) rfl (by decide) ?_
          refine v_aload_n C (i := 1) d_Lw_law_356 rfl rfl ?_
          refine v_callV C (As := []) (rest := []) ho1 cl_Bs rfl w_313 w_314 (op_login hT (by omega)) (Nat.le_of_ble_eq_true rfl) (Nat.le_of_ble_eq_true rfl) w_315 w_1 hy_Bs_login w_312 rfl (Nat.le_of_ble_eq_true rfl) (room_ok (by omega) (by omega)) d_Lw_law_357 (fun rv M hp => ?_)
          obtain ⟨⟨v, rfl⟩, ⟨fs2, ho2⟩, ct2⟩ := hp
          refine V.eqst (st' := [.int v]) rfl ?_
          refine v_aload_n C (i := 2) d_Lw_law_360 rfl rfl ?_
          refine v_callV C (As := []) (rest := [.int v]) ho2 cl_Md rfl w_538 w_539 (ct2) (Nat.le_of_ble_eq_true rfl) (Nat.le_of_ble_eq_true rfl) w_540 w_6 hy_Md_login w_537 rfl (Nat.le_of_ble_eq_true rfl) (room_ok (by omega) (by omega)) d_Lw_law_361 (fun rv M hp => ?_)
          obtain ⟨rfl, hT2⟩ := hp
          refine V.eqst (st' := [.int v, .int v]) rfl ?_
          refine v_icmp_eq C 631 d_Lw_law_364 (by decide) (fun _ => ?_) (fun z => absurd rfl z)
          exact hnext M _ _ (by rw [show 3 * (j + 1) = 3 * j + 3 by omega]; exact hT2) (by omega) (by omega)
        · refine v_tableIn C 369 d_Lw_law_52 (by decide) (by decide) rfl (by decide) ?_
          refine v_aload_n C (i := 1) d_Lw_law_369 rfl rfl ?_
          refine v_callV C (As := []) (rest := []) ho1 cl_Bs rfl w_321 w_322 (op_flush hT (by omega)) (Nat.le_of_ble_eq_true rfl) (Nat.le_of_ble_eq_true rfl) w_323 w_1 hy_Bs_flush w_320 rfl (Nat.le_of_ble_eq_true rfl) (room_ok (by omega) (by omega)) d_Lw_law_370 (fun rv M hp => ?_)
          obtain ⟨⟨v, rfl⟩, ⟨fs2, ho2⟩, ct2⟩ := hp
          refine V.eqst (st' := [.int v]) rfl ?_
          refine v_aload_n C (i := 2) d_Lw_law_373 rfl rfl ?_
          refine v_callV C (As := []) (rest := [.int v]) ho2 cl_Md rfl w_469 w_470 (ct2) (Nat.le_of_ble_eq_true rfl) (Nat.le_of_ble_eq_true rfl) w_471 w_6 hy_Md_flush w_468 rfl (Nat.le_of_ble_eq_true rfl) (room_ok (by omega) (by omega)) d_Lw_law_374 (fun rv M hp => ?_)
          obtain ⟨rfl, hT2⟩ := hp
          refine V.eqst (st' := [.int v, .int v]) rfl ?_
          refine v_icmp_eq C 631 d_Lw_law_377 (by decide) (fun _ => ?_) (fun z => absurd rfl z)
          exact hnext M _ _ (by rw [show 3 * (j + 1) = 3 * j + 3 by omega]; exact hT2) (by omega) (by omega)
        · refine v_tableIn C 382 d_Lw_law_52 (by decide) (by decide) rfl (by decide) ?_
          refine v_aload_n C (i := 1) d_Lw_law_382 rfl rfl ?_
          refine v_aload_n C (i := 0) d_Lw_law_383 rfl rfl ?_
          refine v_iload_n C (i := 3) d_Lw_law_384 rfl rfl ?_
          refine v_iconst C (v := 1) d_Lw_law_385 (by decide) ?_
          refine v_iadd C d_Lw_law_386 ?_
          refine V.eqst (st' := [.int (nI (2 + 4 * j + 1)), .ref b, .ref o1]) (by rw [nI_1]) ?_
          refine v_sld C hX hbl hbA (pk_in (2 + 4 * j + 1) L (by omega)) d_Lw_law_387 ?_
          refine V.eqst (st' := [.int (xs (2 + 4 * j + 1)), .ref o1]) (by rw [show Int32.toNatClampNeg (nI (2 + 4 * j + 1)) = 2 + 4 * j + 1 from pk_cl _ (hx := rfl)]) ?_
          refine v_callV C (As := [.int (xs (2 + 4 * j + 1))]) (rest := []) ho1 cl_Bs rfl w_326 w_327 (op_state hT (by omega) (xs (2 + 4 * j + 1))) (Nat.le_of_ble_eq_true rfl) (Nat.le_of_ble_eq_true rfl) w_328 w_1 hy_Bs_state w_325 rfl (Nat.le_of_ble_eq_true rfl) (room_ok (by omega) (by omega)) d_Lw_law_388 (fun rv M hp => ?_)
          obtain ⟨⟨v, rfl⟩, ⟨fs2, ho2⟩, ct2⟩ := hp
          refine V.eqst (st' := [.int v]) rfl ?_
          refine v_aload_n C (i := 2) d_Lw_law_391 rfl rfl ?_
          refine v_aload_n C (i := 0) d_Lw_law_392 rfl rfl ?_
          refine v_iload_n C (i := 3) d_Lw_law_393 rfl rfl ?_
          refine v_iconst C (v := 1) d_Lw_law_394 (by decide) ?_
          refine v_iadd C d_Lw_law_395 ?_
          refine V.eqst (st' := [.int (nI (2 + 4 * j + 1)), .ref b, .ref o2, .int v]) (by rw [nI_1]) ?_
          refine v_sld C hX hbl hbA (pk_in (2 + 4 * j + 1) L (by omega)) d_Lw_law_396 ?_
          refine V.eqst (st' := [.int (xs (2 + 4 * j + 1)), .ref o2, .int v]) (by rw [show Int32.toNatClampNeg (nI (2 + 4 * j + 1)) = 2 + 4 * j + 1 from pk_cl _ (hx := rfl)]) ?_
          refine v_callV C (As := [.int (xs (2 + 4 * j + 1))]) (rest := [.int v]) ho2 cl_Md rfl w_542 w_543 (ct2) (Nat.le_of_ble_eq_true rfl) (Nat.le_of_ble_eq_true rfl) w_544 w_6 hy_Md_state w_541 rfl (Nat.le_of_ble_eq_true rfl) (room_ok (by omega) (by omega)) d_Lw_law_397 (fun rv M hp => ?_)
          obtain ⟨rfl, hT2⟩ := hp
          refine V.eqst (st' := [.int v, .int v]) rfl ?_
          refine v_icmp_eq C 631 d_Lw_law_400 (by decide) (fun _ => ?_) (fun z => absurd rfl z)
          exact hnext M _ _ (by rw [show 3 * (j + 1) = 3 * j + 3 by omega]; exact hT2) (by omega) (by omega)
        · refine v_tableIn C 405 d_Lw_law_52 (by decide) (by decide) rfl (by decide) ?_
          refine v_aload_n C (i := 1) d_Lw_law_405 rfl rfl ?_
          refine v_aload_n C (i := 0) d_Lw_law_406 rfl rfl ?_
          refine v_iload_n C (i := 3) d_Lw_law_407 rfl rfl ?_
          refine v_iconst C (v := 1) d_Lw_law_408 (by decide) ?_
          refine v_iadd C d_Lw_law_409 ?_
          refine V.eqst (st' := [.int (nI (2 + 4 * j + 1)), .ref b, .ref o1]) (by rw [nI_1]) ?_
          refine v_sld C hX hbl hbA (pk_in (2 + 4 * j + 1) L (by omega)) d_Lw_law_410 ?_
          refine V.eqst (st' := [.int (xs (2 + 4 * j + 1)), .ref o1]) (by rw [show Int32.toNatClampNeg (nI (2 + 4 * j + 1)) = 2 + 4 * j + 1 from pk_cl _ (hx := rfl)]) ?_
          refine v_aload_n C (i := 0) d_Lw_law_411 rfl rfl ?_
          refine v_iload_n C (i := 3) d_Lw_law_412 rfl rfl ?_
          refine v_iconst C (v := 2) d_Lw_law_413 (by decide) ?_
          refine v_iadd C d_Lw_law_414 ?_
          refine V.eqst (st' := [.int (nI (2 + 4 * j + 2)), .ref b, .int (xs (2 + 4 * j + 1)), .ref o1]) (by rw [nI_p2]) ?_
          refine v_sld C hX hbl hbA (pk_in (2 + 4 * j + 2) L (by omega)) d_Lw_law_415 ?_
          refine V.eqst (st' := [.int (xs (2 + 4 * j + 2)), .int (xs (2 + 4 * j + 1)), .ref o1]) (by rw [show Int32.toNatClampNeg (nI (2 + 4 * j + 2)) = 2 + 4 * j + 2 from pk_cl _ (hx := rfl)]) ?_
          refine v_callV C (As := [.int (xs (2 + 4 * j + 1)), .int (xs (2 + 4 * j + 2))]) (rest := []) ho1 cl_Bs rfl w_330 w_331 (op_result hT (by omega) (xs (2 + 4 * j + 1)) (xs (2 + 4 * j + 2))) (Nat.le_of_ble_eq_true rfl) (Nat.le_of_ble_eq_true rfl) w_332 w_1 hy_Bs_result w_329 rfl (Nat.le_of_ble_eq_true rfl) (room_ok (by omega) (by omega)) d_Lw_law_416 (fun rv M hp => ?_)
          obtain ⟨⟨v, rfl⟩, ⟨fs2, ho2⟩, ct2⟩ := hp
          refine V.eqst (st' := [.long v]) rfl ?_
          refine v_aload_n C (i := 2) d_Lw_law_419 rfl rfl ?_
          refine v_aload_n C (i := 0) d_Lw_law_420 rfl rfl ?_
          refine v_iload_n C (i := 3) d_Lw_law_421 rfl rfl ?_
          refine v_iconst C (v := 1) d_Lw_law_422 (by decide) ?_
          refine v_iadd C d_Lw_law_423 ?_
          refine V.eqst (st' := [.int (nI (2 + 4 * j + 1)), .ref b, .ref o2, .long v]) (by rw [nI_1]) ?_
          refine v_sld C hX hbl hbA (pk_in (2 + 4 * j + 1) L (by omega)) d_Lw_law_424 ?_
          refine V.eqst (st' := [.int (xs (2 + 4 * j + 1)), .ref o2, .long v]) (by rw [show Int32.toNatClampNeg (nI (2 + 4 * j + 1)) = 2 + 4 * j + 1 from pk_cl _ (hx := rfl)]) ?_
          refine v_aload_n C (i := 0) d_Lw_law_425 rfl rfl ?_
          refine v_iload_n C (i := 3) d_Lw_law_426 rfl rfl ?_
          refine v_iconst C (v := 2) d_Lw_law_427 (by decide) ?_
          refine v_iadd C d_Lw_law_428 ?_
          refine V.eqst (st' := [.int (nI (2 + 4 * j + 2)), .ref b, .int (xs (2 + 4 * j + 1)), .ref o2, .long v]) (by rw [nI_p2]) ?_
          refine v_sld C hX hbl hbA (pk_in (2 + 4 * j + 2) L (by omega)) d_Lw_law_429 ?_
          refine V.eqst (st' := [.int (xs (2 + 4 * j + 2)), .int (xs (2 + 4 * j + 1)), .ref o2, .long v]) (by rw [show Int32.toNatClampNeg (nI (2 + 4 * j + 2)) = 2 + 4 * j + 2 from pk_cl _ (hx := rfl)]) ?_
          refine v_callV C (As := [.int (xs (2 + 4 * j + 1)), .int (xs (2 + 4 * j + 2))]) (rest := [.long v]) ho2 cl_Md rfl w_546 w_547 (ct2) (Nat.le_of_ble_eq_true rfl) (Nat.le_of_ble_eq_true rfl) w_548 w_6 hy_Md_result w_545 rfl (Nat.le_of_ble_eq_true rfl) (room_ok (by omega) (by omega)) d_Lw_law_430 (fun rv M hp => ?_)
          obtain ⟨rfl, hT2⟩ := hp
          refine V.eqst (st' := [.long v, .long v]) rfl ?_
          refine v_lcmp C d_Lw_law_433 ?_
          refine v_if_eq C 631 d_Lw_law_434 (by decide) (fun _ => ?_) (fun z => absurd (lg_cmp_self v) z)
          exact hnext M _ _ (by rw [show 3 * (j + 1) = 3 * j + 3 by omega]; exact hT2) (by omega) (by omega)
        · refine v_tableIn C 439 d_Lw_law_52 (by decide) (by decide) rfl (by decide) ?_
          refine v_aload_n C (i := 1) d_Lw_law_439 rfl rfl ?_
          refine v_aload_n C (i := 0) d_Lw_law_440 rfl rfl ?_
          refine v_iload_n C (i := 3) d_Lw_law_441 rfl rfl ?_
          refine v_iconst C (v := 1) d_Lw_law_442 (by decide) ?_
          refine v_iadd C d_Lw_law_443 ?_
          refine V.eqst (st' := [.int (nI (2 + 4 * j + 1)), .ref b, .ref o1]) (by rw [nI_1]) ?_
          refine v_sld C hX hbl hbA (pk_in (2 + 4 * j + 1) L (by omega)) d_Lw_law_444 ?_
          refine V.eqst (st' := [.int (xs (2 + 4 * j + 1)), .ref o1]) (by rw [show Int32.toNatClampNeg (nI (2 + 4 * j + 1)) = 2 + 4 * j + 1 from pk_cl _ (hx := rfl)]) ?_
          refine v_callV C (As := [.int (xs (2 + 4 * j + 1))]) (rest := []) ho1 cl_Bs rfl w_335 w_336 (op_present hT (by omega) (xs (2 + 4 * j + 1))) (Nat.le_of_ble_eq_true rfl) (Nat.le_of_ble_eq_true rfl) w_337 w_1 hy_Bs_present w_334 rfl (Nat.le_of_ble_eq_true rfl) (room_ok (by omega) (by omega)) d_Lw_law_445 (fun rv M hp => ?_)
          obtain ⟨⟨v, rfl⟩, ⟨fs2, ho2⟩, ct2⟩ := hp
          refine V.eqst (st' := [.long v]) rfl ?_
          refine v_aload_n C (i := 2) d_Lw_law_448 rfl rfl ?_
          refine v_aload_n C (i := 0) d_Lw_law_449 rfl rfl ?_
          refine v_iload_n C (i := 3) d_Lw_law_450 rfl rfl ?_
          refine v_iconst C (v := 1) d_Lw_law_451 (by decide) ?_
          refine v_iadd C d_Lw_law_452 ?_
          refine V.eqst (st' := [.int (nI (2 + 4 * j + 1)), .ref b, .ref o2, .long v]) (by rw [nI_1]) ?_
          refine v_sld C hX hbl hbA (pk_in (2 + 4 * j + 1) L (by omega)) d_Lw_law_453 ?_
          refine V.eqst (st' := [.int (xs (2 + 4 * j + 1)), .ref o2, .long v]) (by rw [show Int32.toNatClampNeg (nI (2 + 4 * j + 1)) = 2 + 4 * j + 1 from pk_cl _ (hx := rfl)]) ?_
          refine v_callV C (As := [.int (xs (2 + 4 * j + 1))]) (rest := [.long v]) ho2 cl_Md rfl w_551 w_552 (ct2) (Nat.le_of_ble_eq_true rfl) (Nat.le_of_ble_eq_true rfl) w_553 w_6 hy_Md_present w_550 rfl (Nat.le_of_ble_eq_true rfl) (room_ok (by omega) (by omega)) d_Lw_law_454 (fun rv M hp => ?_)
          obtain ⟨rfl, hT2⟩ := hp
          refine V.eqst (st' := [.long v, .long v]) rfl ?_
          refine v_lcmp C d_Lw_law_457 ?_
          refine v_if_eq C 631 d_Lw_law_458 (by decide) (fun _ => ?_) (fun z => absurd (lg_cmp_self v) z)
          exact hnext M _ _ (by rw [show 3 * (j + 1) = 3 * j + 3 by omega]; exact hT2) (by omega) (by omega)
        · refine v_tableIn C 463 d_Lw_law_52 (by decide) (by decide) rfl (by decide) ?_
          refine v_aload_n C (i := 1) d_Lw_law_463 rfl rfl ?_
          refine v_aload_n C (i := 0) d_Lw_law_464 rfl rfl ?_
          refine v_iload_n C (i := 3) d_Lw_law_465 rfl rfl ?_
          refine v_iconst C (v := 1) d_Lw_law_466 (by decide) ?_
          refine v_iadd C d_Lw_law_467 ?_
          refine V.eqst (st' := [.int (nI (2 + 4 * j + 1)), .ref b, .ref o1]) (by rw [nI_1]) ?_
          refine v_sld C hX hbl hbA (pk_in (2 + 4 * j + 1) L (by omega)) d_Lw_law_468 ?_
          refine V.eqst (st' := [.int (xs (2 + 4 * j + 1)), .ref o1]) (by rw [show Int32.toNatClampNeg (nI (2 + 4 * j + 1)) = 2 + 4 * j + 1 from pk_cl _ (hx := rfl)]) ?_
          refine v_callV C (As := [.int (xs (2 + 4 * j + 1))]) (rest := []) ho1 cl_Bs rfl w_339 w_340 (op_disk hT (by omega) (xs (2 + 4 * j + 1))) (Nat.le_of_ble_eq_true rfl) (Nat.le_of_ble_eq_true rfl) w_341 w_1 hy_Bs_disk w_338 rfl (Nat.le_of_ble_eq_true rfl) (room_ok (by omega) (by omega)) d_Lw_law_469 (fun rv M hp => ?_)
          obtain ⟨⟨v, rfl⟩, ⟨fs2, ho2⟩, ct2⟩ := hp
          refine V.eqst (st' := [.long v]) rfl ?_
          refine v_aload_n C (i := 2) d_Lw_law_472 rfl rfl ?_
          refine v_aload_n C (i := 0) d_Lw_law_473 rfl rfl ?_
          refine v_iload_n C (i := 3) d_Lw_law_474 rfl rfl ?_
          refine v_iconst C (v := 1) d_Lw_law_475 (by decide) ?_
          refine v_iadd C d_Lw_law_476 ?_
          refine V.eqst (st' := [.int (nI (2 + 4 * j + 1)), .ref b, .ref o2, .long v]) (by rw [nI_1]) ?_
          refine v_sld C hX hbl hbA (pk_in (2 + 4 * j + 1) L (by omega)) d_Lw_law_477 ?_
          refine V.eqst (st' := [.int (xs (2 + 4 * j + 1)), .ref o2, .long v]) (by rw [show Int32.toNatClampNeg (nI (2 + 4 * j + 1)) = 2 + 4 * j + 1 from pk_cl _ (hx := rfl)]) ?_
          refine v_callV C (As := [.int (xs (2 + 4 * j + 1))]) (rest := [.long v]) ho2 cl_Md rfl w_555 w_556 (ct2) (Nat.le_of_ble_eq_true rfl) (Nat.le_of_ble_eq_true rfl) w_557 w_6 hy_Md_disk w_554 rfl (Nat.le_of_ble_eq_true rfl) (room_ok (by omega) (by omega)) d_Lw_law_478 (fun rv M hp => ?_)
          obtain ⟨rfl, hT2⟩ := hp
          refine V.eqst (st' := [.long v, .long v]) rfl ?_
          refine v_lcmp C d_Lw_law_481 ?_
          refine v_if_eq C 631 d_Lw_law_482 (by decide) (fun _ => ?_) (fun z => absurd (lg_cmp_self v) z)
          exact hnext M _ _ (by rw [show 3 * (j + 1) = 3 * j + 3 by omega]; exact hT2) (by omega) (by omega)
        · refine v_tableIn C 487 d_Lw_law_52 (by decide) (by decide) rfl (by decide) ?_
          refine v_aload_n C (i := 1) d_Lw_law_487 rfl rfl ?_
          refine v_aload_n C (i := 0) d_Lw_law_488 rfl rfl ?_
          refine v_iload_n C (i := 3) d_Lw_law_489 rfl rfl ?_
          refine v_iconst C (v := 1) d_Lw_law_490 (by decide) ?_
          refine v_iadd C d_Lw_law_491 ?_
          refine V.eqst (st' := [.int (nI (2 + 4 * j + 1)), .ref b, .ref o1]) (by rw [nI_1]) ?_
          refine v_sld C hX hbl hbA (pk_in (2 + 4 * j + 1) L (by omega)) d_Lw_law_492 ?_
          refine V.eqst (st' := [.int (xs (2 + 4 * j + 1)), .ref o1]) (by rw [show Int32.toNatClampNeg (nI (2 + 4 * j + 1)) = 2 + 4 * j + 1 from pk_cl _ (hx := rfl)]) ?_
          refine v_callV C (As := [.int (xs (2 + 4 * j + 1))]) (rest := []) ho1 cl_Bs rfl w_343 w_344 (op_cached hT (by omega) (xs (2 + 4 * j + 1))) (Nat.le_of_ble_eq_true rfl) (Nat.le_of_ble_eq_true rfl) w_345 w_1 hy_Bs_cached w_342 rfl (Nat.le_of_ble_eq_true rfl) (room_ok (by omega) (by omega)) d_Lw_law_493 (fun rv M hp => ?_)
          obtain ⟨⟨v, rfl⟩, ⟨fs2, ho2⟩, ct2⟩ := hp
          refine V.eqst (st' := [.int v]) rfl ?_
          refine v_aload_n C (i := 2) d_Lw_law_496 rfl rfl ?_
          refine v_aload_n C (i := 0) d_Lw_law_497 rfl rfl ?_
          refine v_iload_n C (i := 3) d_Lw_law_498 rfl rfl ?_
          refine v_iconst C (v := 1) d_Lw_law_499 (by decide) ?_
          refine v_iadd C d_Lw_law_500 ?_
          refine V.eqst (st' := [.int (nI (2 + 4 * j + 1)), .ref b, .ref o2, .int v]) (by rw [nI_1]) ?_
          refine v_sld C hX hbl hbA (pk_in (2 + 4 * j + 1) L (by omega)) d_Lw_law_501 ?_
          refine V.eqst (st' := [.int (xs (2 + 4 * j + 1)), .ref o2, .int v]) (by rw [show Int32.toNatClampNeg (nI (2 + 4 * j + 1)) = 2 + 4 * j + 1 from pk_cl _ (hx := rfl)]) ?_
          refine v_callV C (As := [.int (xs (2 + 4 * j + 1))]) (rest := [.int v]) ho2 cl_Md rfl w_559 w_560 (ct2) (Nat.le_of_ble_eq_true rfl) (Nat.le_of_ble_eq_true rfl) w_561 w_6 hy_Md_cached w_558 rfl (Nat.le_of_ble_eq_true rfl) (room_ok (by omega) (by omega)) d_Lw_law_502 (fun rv M hp => ?_)
          obtain ⟨rfl, hT2⟩ := hp
          refine V.eqst (st' := [.int v, .int v]) rfl ?_
          refine v_icmp_eq C 631 d_Lw_law_505 (by decide) (fun _ => ?_) (fun z => absurd rfl z)
          exact hnext M _ _ (by rw [show 3 * (j + 1) = 3 * j + 3 by omega]; exact hT2) (by omega) (by omega)
        · refine v_tableIn C 510 d_Lw_law_52 (by decide) (by decide) rfl (by decide) ?_
          by_cases cu : xs (2 + 4 * j + 1) = 0
          · refine v_aload_n C (i := 1) d_Lw_law_510 rfl rfl ?_
            refine v_aload_n C (i := 0) d_Lw_law_511 rfl rfl ?_
            refine v_iload_n C (i := 3) d_Lw_law_512 rfl rfl ?_
            refine v_iconst C (v := 1) d_Lw_law_513 (by decide) ?_
            refine v_iadd C d_Lw_law_514 ?_
            refine V.eqst (st' := [.int (nI (2 + 4 * j + 1)), .ref b, .ref o1]) (by rw [nI_1]) ?_
            refine v_sld C hX hbl hbA (pk_in (2 + 4 * j + 1) L (by omega)) d_Lw_law_515 ?_
            refine V.eqst (st' := [.int (xs (2 + 4 * j + 1)), .ref o1]) (by rw [show Int32.toNatClampNeg (nI (2 + 4 * j + 1)) = 2 + 4 * j + 1 from pk_cl _ (hx := rfl)]) ?_
            refine v_if_eq C 523 d_Lw_law_516 (by decide) (fun _ => ?_) (fun z => absurd cu z)
            refine v_iconst C (v := 0) d_Lw_law_523 (by decide) ?_
            refine v_aload_n C (i := 0) d_Lw_law_524 rfl rfl ?_
            refine v_iload_n C (i := 3) d_Lw_law_525 rfl rfl ?_
            refine v_iconst C (v := 2) d_Lw_law_526 (by decide) ?_
            refine v_iadd C d_Lw_law_527 ?_
            refine V.eqst (st' := [.int (nI (2 + 4 * j + 2)), .ref b, .int 0, .ref o1]) (by rw [nI_p2]) ?_
            refine v_sld C hX hbl hbA (pk_in (2 + 4 * j + 2) L (by omega)) d_Lw_law_528 ?_
            refine V.eqst (st' := [.int (xs (2 + 4 * j + 2)), .int 0, .ref o1]) (by rw [show Int32.toNatClampNeg (nI (2 + 4 * j + 2)) = 2 + 4 * j + 2 from pk_cl _ (hx := rfl)]) ?_
            refine v_aload_n C (i := 0) d_Lw_law_529 rfl rfl ?_
            refine v_iload_n C (i := 3) d_Lw_law_530 rfl rfl ?_
            refine v_iconst C (v := 3) d_Lw_law_531 (by decide) ?_
            refine v_iadd C d_Lw_law_532 ?_
            refine V.eqst (st' := [.int (nI (2 + 4 * j + 3)), .ref b, .int (xs (2 + 4 * j + 2)), .int 0, .ref o1]) (by rw [nI_p3]) ?_
            refine v_sld C hX hbl hbA (pk_in (2 + 4 * j + 3) L (by omega)) d_Lw_law_533 ?_
            refine V.eqst (st' := [.int (xs (2 + 4 * j + 3)), .int (xs (2 + 4 * j + 2)), .int 0, .ref o1]) (by rw [show Int32.toNatClampNeg (nI (2 + 4 * j + 3)) = 2 + 4 * j + 3 from pk_cl _ (hx := rfl)]) ?_
            refine v_callV C (As := [.int 0, .int (xs (2 + 4 * j + 2)), .int (xs (2 + 4 * j + 3))]) (rest := []) ho1 cl_Bs rfl w_351 w_352 (op_message hT (by omega) 0 (xs (2 + 4 * j + 2)) (xs (2 + 4 * j + 3))) (Nat.le_of_ble_eq_true rfl) (Nat.le_of_ble_eq_true rfl) w_353 w_1 hy_Bs_message w_350 rfl (Nat.le_of_ble_eq_true rfl) (room_ok (by omega) (by omega)) d_Lw_law_534 (fun rv M hp => ?_)
            obtain ⟨⟨v, rfl⟩, ⟨fs2, ho2⟩, ct2⟩ := hp
            refine V.eqst (st' := [.int v]) rfl ?_
            refine v_aload_n C (i := 2) d_Lw_law_537 rfl rfl ?_
            refine v_aload_n C (i := 0) d_Lw_law_538 rfl rfl ?_
            refine v_iload_n C (i := 3) d_Lw_law_539 rfl rfl ?_
            refine v_iconst C (v := 1) d_Lw_law_540 (by decide) ?_
            refine v_iadd C d_Lw_law_541 ?_
            refine V.eqst (st' := [.int (nI (2 + 4 * j + 1)), .ref b, .ref o2, .int v]) (by rw [nI_1]) ?_
            refine v_sld C hX hbl hbA (pk_in (2 + 4 * j + 1) L (by omega)) d_Lw_law_542 ?_
            refine V.eqst (st' := [.int (xs (2 + 4 * j + 1)), .ref o2, .int v]) (by rw [show Int32.toNatClampNeg (nI (2 + 4 * j + 1)) = 2 + 4 * j + 1 from pk_cl _ (hx := rfl)]) ?_
            refine v_if_eq C 550 d_Lw_law_543 (by decide) (fun _ => ?_) (fun z => absurd cu z)
            refine v_iconst C (v := 0) d_Lw_law_550 (by decide) ?_
            refine v_aload_n C (i := 0) d_Lw_law_551 rfl rfl ?_
            refine v_iload_n C (i := 3) d_Lw_law_552 rfl rfl ?_
            refine v_iconst C (v := 2) d_Lw_law_553 (by decide) ?_
            refine v_iadd C d_Lw_law_554 ?_
            refine V.eqst (st' := [.int (nI (2 + 4 * j + 2)), .ref b, .int 0, .ref o2, .int v]) (by rw [nI_p2]) ?_
            refine v_sld C hX hbl hbA (pk_in (2 + 4 * j + 2) L (by omega)) d_Lw_law_555 ?_
            refine V.eqst (st' := [.int (xs (2 + 4 * j + 2)), .int 0, .ref o2, .int v]) (by rw [show Int32.toNatClampNeg (nI (2 + 4 * j + 2)) = 2 + 4 * j + 2 from pk_cl _ (hx := rfl)]) ?_
            refine v_aload_n C (i := 0) d_Lw_law_556 rfl rfl ?_
            refine v_iload_n C (i := 3) d_Lw_law_557 rfl rfl ?_
            refine v_iconst C (v := 3) d_Lw_law_558 (by decide) ?_
            refine v_iadd C d_Lw_law_559 ?_
            refine V.eqst (st' := [.int (nI (2 + 4 * j + 3)), .ref b, .int (xs (2 + 4 * j + 2)), .int 0, .ref o2, .int v]) (by rw [nI_p3]) ?_
            refine v_sld C hX hbl hbA (pk_in (2 + 4 * j + 3) L (by omega)) d_Lw_law_560 ?_
            refine V.eqst (st' := [.int (xs (2 + 4 * j + 3)), .int (xs (2 + 4 * j + 2)), .int 0, .ref o2, .int v]) (by rw [show Int32.toNatClampNeg (nI (2 + 4 * j + 3)) = 2 + 4 * j + 3 from pk_cl _ (hx := rfl)]) ?_
            refine v_callV C (As := [.int 0, .int (xs (2 + 4 * j + 2)), .int (xs (2 + 4 * j + 3))]) (rest := [.int v]) ho2 cl_Md rfl w_563 w_564 (ct2) (Nat.le_of_ble_eq_true rfl) (Nat.le_of_ble_eq_true rfl) w_565 w_6 hy_Md_message w_562 rfl (Nat.le_of_ble_eq_true rfl) (room_ok (by omega) (by omega)) d_Lw_law_561 (fun rv M hp => ?_)
            obtain ⟨rfl, hT2⟩ := hp
            refine V.eqst (st' := [.int v, .int v]) rfl ?_
            refine v_icmp_eq C 631 d_Lw_law_564 (by decide) (fun _ => ?_) (fun z => absurd rfl z)
            exact hnext M _ _ (by rw [show 3 * (j + 1) = 3 * j + 3 by omega]; exact hT2) (by omega) (by omega)
          · refine v_aload_n C (i := 1) d_Lw_law_510 rfl rfl ?_
            refine v_aload_n C (i := 0) d_Lw_law_511 rfl rfl ?_
            refine v_iload_n C (i := 3) d_Lw_law_512 rfl rfl ?_
            refine v_iconst C (v := 1) d_Lw_law_513 (by decide) ?_
            refine v_iadd C d_Lw_law_514 ?_
            refine V.eqst (st' := [.int (nI (2 + 4 * j + 1)), .ref b, .ref o1]) (by rw [nI_1]) ?_
            refine v_sld C hX hbl hbA (pk_in (2 + 4 * j + 1) L (by omega)) d_Lw_law_515 ?_
            refine V.eqst (st' := [.int (xs (2 + 4 * j + 1)), .ref o1]) (by rw [show Int32.toNatClampNeg (nI (2 + 4 * j + 1)) = 2 + 4 * j + 1 from pk_cl _ (hx := rfl)]) ?_
            refine v_if_eq C 523 d_Lw_law_516 (by decide) (fun z => absurd z cu) (fun _ => ?_)
            refine v_iconst C (v := 1) d_Lw_law_519 (by decide) ?_
            refine v_goto C 524 d_Lw_law_520 (by decide) ?_
            refine v_aload_n C (i := 0) d_Lw_law_524 rfl rfl ?_
            refine v_iload_n C (i := 3) d_Lw_law_525 rfl rfl ?_
            refine v_iconst C (v := 2) d_Lw_law_526 (by decide) ?_
            refine v_iadd C d_Lw_law_527 ?_
            refine V.eqst (st' := [.int (nI (2 + 4 * j + 2)), .ref b, .int 1, .ref o1]) (by rw [nI_p2]) ?_
            refine v_sld C hX hbl hbA (pk_in (2 + 4 * j + 2) L (by omega)) d_Lw_law_528 ?_
            refine V.eqst (st' := [.int (xs (2 + 4 * j + 2)), .int 1, .ref o1]) (by rw [show Int32.toNatClampNeg (nI (2 + 4 * j + 2)) = 2 + 4 * j + 2 from pk_cl _ (hx := rfl)]) ?_
            refine v_aload_n C (i := 0) d_Lw_law_529 rfl rfl ?_
            refine v_iload_n C (i := 3) d_Lw_law_530 rfl rfl ?_
            refine v_iconst C (v := 3) d_Lw_law_531 (by decide) ?_
            refine v_iadd C d_Lw_law_532 ?_
            refine V.eqst (st' := [.int (nI (2 + 4 * j + 3)), .ref b, .int (xs (2 + 4 * j + 2)), .int 1, .ref o1]) (by rw [nI_p3]) ?_
            refine v_sld C hX hbl hbA (pk_in (2 + 4 * j + 3) L (by omega)) d_Lw_law_533 ?_
            refine V.eqst (st' := [.int (xs (2 + 4 * j + 3)), .int (xs (2 + 4 * j + 2)), .int 1, .ref o1]) (by rw [show Int32.toNatClampNeg (nI (2 + 4 * j + 3)) = 2 + 4 * j + 3 from pk_cl _ (hx := rfl)]) ?_
            refine v_callV C (As := [.int 1, .int (xs (2 + 4 * j + 2)), .int (xs (2 + 4 * j + 3))]) (rest := []) ho1 cl_Bs rfl w_351 w_352 (op_message hT (by omega) 1 (xs (2 + 4 * j + 2)) (xs (2 + 4 * j + 3))) (Nat.le_of_ble_eq_true rfl) (Nat.le_of_ble_eq_true rfl) w_353 w_1 hy_Bs_message w_350 rfl (Nat.le_of_ble_eq_true rfl) (room_ok (by omega) (by omega)) d_Lw_law_534 (fun rv M hp => ?_)
            obtain ⟨⟨v, rfl⟩, ⟨fs2, ho2⟩, ct2⟩ := hp
            refine V.eqst (st' := [.int v]) rfl ?_
            refine v_aload_n C (i := 2) d_Lw_law_537 rfl rfl ?_
            refine v_aload_n C (i := 0) d_Lw_law_538 rfl rfl ?_
            refine v_iload_n C (i := 3) d_Lw_law_539 rfl rfl ?_
            refine v_iconst C (v := 1) d_Lw_law_540 (by decide) ?_
            refine v_iadd C d_Lw_law_541 ?_
            refine V.eqst (st' := [.int (nI (2 + 4 * j + 1)), .ref b, .ref o2, .int v]) (by rw [nI_1]) ?_
            refine v_sld C hX hbl hbA (pk_in (2 + 4 * j + 1) L (by omega)) d_Lw_law_542 ?_
            refine V.eqst (st' := [.int (xs (2 + 4 * j + 1)), .ref o2, .int v]) (by rw [show Int32.toNatClampNeg (nI (2 + 4 * j + 1)) = 2 + 4 * j + 1 from pk_cl _ (hx := rfl)]) ?_
            refine v_if_eq C 550 d_Lw_law_543 (by decide) (fun z => absurd z cu) (fun _ => ?_)
            refine v_iconst C (v := 1) d_Lw_law_546 (by decide) ?_
            refine v_goto C 551 d_Lw_law_547 (by decide) ?_
            refine v_aload_n C (i := 0) d_Lw_law_551 rfl rfl ?_
            refine v_iload_n C (i := 3) d_Lw_law_552 rfl rfl ?_
            refine v_iconst C (v := 2) d_Lw_law_553 (by decide) ?_
            refine v_iadd C d_Lw_law_554 ?_
            refine V.eqst (st' := [.int (nI (2 + 4 * j + 2)), .ref b, .int 1, .ref o2, .int v]) (by rw [nI_p2]) ?_
            refine v_sld C hX hbl hbA (pk_in (2 + 4 * j + 2) L (by omega)) d_Lw_law_555 ?_
            refine V.eqst (st' := [.int (xs (2 + 4 * j + 2)), .int 1, .ref o2, .int v]) (by rw [show Int32.toNatClampNeg (nI (2 + 4 * j + 2)) = 2 + 4 * j + 2 from pk_cl _ (hx := rfl)]) ?_
            refine v_aload_n C (i := 0) d_Lw_law_556 rfl rfl ?_
            refine v_iload_n C (i := 3) d_Lw_law_557 rfl rfl ?_
            refine v_iconst C (v := 3) d_Lw_law_558 (by decide) ?_
            refine v_iadd C d_Lw_law_559 ?_
            refine V.eqst (st' := [.int (nI (2 + 4 * j + 3)), .ref b, .int (xs (2 + 4 * j + 2)), .int 1, .ref o2, .int v]) (by rw [nI_p3]) ?_
            refine v_sld C hX hbl hbA (pk_in (2 + 4 * j + 3) L (by omega)) d_Lw_law_560 ?_
            refine V.eqst (st' := [.int (xs (2 + 4 * j + 3)), .int (xs (2 + 4 * j + 2)), .int 1, .ref o2, .int v]) (by rw [show Int32.toNatClampNeg (nI (2 + 4 * j + 3)) = 2 + 4 * j + 3 from pk_cl _ (hx := rfl)]) ?_
            refine v_callV C (As := [.int 1, .int (xs (2 + 4 * j + 2)), .int (xs (2 + 4 * j + 3))]) (rest := [.int v]) ho2 cl_Md rfl w_563 w_564 (ct2) (Nat.le_of_ble_eq_true rfl) (Nat.le_of_ble_eq_true rfl) w_565 w_6 hy_Md_message w_562 rfl (Nat.le_of_ble_eq_true rfl) (room_ok (by omega) (by omega)) d_Lw_law_561 (fun rv M hp => ?_)
            obtain ⟨rfl, hT2⟩ := hp
            refine V.eqst (st' := [.int v, .int v]) rfl ?_
            refine v_icmp_eq C 631 d_Lw_law_564 (by decide) (fun _ => ?_) (fun z => absurd rfl z)
            exact hnext M _ _ (by rw [show 3 * (j + 1) = 3 * j + 3 by omega]; exact hT2) (by omega) (by omega)
        · refine v_tableIn C 569 d_Lw_law_52 (by decide) (by decide) rfl (by decide) ?_
          by_cases cu : xs (2 + 4 * j + 1) = 0
          · refine v_aload_n C (i := 1) d_Lw_law_569 rfl rfl ?_
            refine v_aload_n C (i := 0) d_Lw_law_570 rfl rfl ?_
            refine v_iload_n C (i := 3) d_Lw_law_571 rfl rfl ?_
            refine v_iconst C (v := 1) d_Lw_law_572 (by decide) ?_
            refine v_iadd C d_Lw_law_573 ?_
            refine V.eqst (st' := [.int (nI (2 + 4 * j + 1)), .ref b, .ref o1]) (by rw [nI_1]) ?_
            refine v_sld C hX hbl hbA (pk_in (2 + 4 * j + 1) L (by omega)) d_Lw_law_574 ?_
            refine V.eqst (st' := [.int (xs (2 + 4 * j + 1)), .ref o1]) (by rw [show Int32.toNatClampNeg (nI (2 + 4 * j + 1)) = 2 + 4 * j + 1 from pk_cl _ (hx := rfl)]) ?_
            refine v_if_eq C 582 d_Lw_law_575 (by decide) (fun _ => ?_) (fun z => absurd cu z)
            refine v_iconst C (v := 0) d_Lw_law_582 (by decide) ?_
            refine v_callV C (As := [.int 0]) (rest := []) ho1 cl_Bs rfl w_355 w_356 (op_waiting hT (by omega) 0) (Nat.le_of_ble_eq_true rfl) (Nat.le_of_ble_eq_true rfl) w_357 w_1 hy_Bs_waiting w_354 rfl (Nat.le_of_ble_eq_true rfl) (room_ok (by omega) (by omega)) d_Lw_law_583 (fun rv M hp => ?_)
            obtain ⟨⟨v, rfl⟩, ⟨fs2, ho2⟩, ct2⟩ := hp
            refine V.eqst (st' := [.int v]) rfl ?_
            refine v_aload_n C (i := 2) d_Lw_law_586 rfl rfl ?_
            refine v_aload_n C (i := 0) d_Lw_law_587 rfl rfl ?_
            refine v_iload_n C (i := 3) d_Lw_law_588 rfl rfl ?_
            refine v_iconst C (v := 1) d_Lw_law_589 (by decide) ?_
            refine v_iadd C d_Lw_law_590 ?_
            refine V.eqst (st' := [.int (nI (2 + 4 * j + 1)), .ref b, .ref o2, .int v]) (by rw [nI_1]) ?_
            refine v_sld C hX hbl hbA (pk_in (2 + 4 * j + 1) L (by omega)) d_Lw_law_591 ?_
            refine V.eqst (st' := [.int (xs (2 + 4 * j + 1)), .ref o2, .int v]) (by rw [show Int32.toNatClampNeg (nI (2 + 4 * j + 1)) = 2 + 4 * j + 1 from pk_cl _ (hx := rfl)]) ?_
            refine v_if_eq C 599 d_Lw_law_592 (by decide) (fun _ => ?_) (fun z => absurd cu z)
            refine v_iconst C (v := 0) d_Lw_law_599 (by decide) ?_
            refine v_callV C (As := [.int 0]) (rest := [.int v]) ho2 cl_Md rfl w_567 w_568 (ct2) (Nat.le_of_ble_eq_true rfl) (Nat.le_of_ble_eq_true rfl) w_569 w_6 hy_Md_waiting w_566 rfl (Nat.le_of_ble_eq_true rfl) (room_ok (by omega) (by omega)) d_Lw_law_600 (fun rv M hp => ?_)
            obtain ⟨rfl, hT2⟩ := hp
            refine V.eqst (st' := [.int v, .int v]) rfl ?_
            refine v_icmp_eq C 631 d_Lw_law_603 (by decide) (fun _ => ?_) (fun z => absurd rfl z)
            exact hnext M _ _ (by rw [show 3 * (j + 1) = 3 * j + 3 by omega]; exact hT2) (by omega) (by omega)
          · refine v_aload_n C (i := 1) d_Lw_law_569 rfl rfl ?_
            refine v_aload_n C (i := 0) d_Lw_law_570 rfl rfl ?_
            refine v_iload_n C (i := 3) d_Lw_law_571 rfl rfl ?_
            refine v_iconst C (v := 1) d_Lw_law_572 (by decide) ?_
            refine v_iadd C d_Lw_law_573 ?_
            refine V.eqst (st' := [.int (nI (2 + 4 * j + 1)), .ref b, .ref o1]) (by rw [nI_1]) ?_
            refine v_sld C hX hbl hbA (pk_in (2 + 4 * j + 1) L (by omega)) d_Lw_law_574 ?_
            refine V.eqst (st' := [.int (xs (2 + 4 * j + 1)), .ref o1]) (by rw [show Int32.toNatClampNeg (nI (2 + 4 * j + 1)) = 2 + 4 * j + 1 from pk_cl _ (hx := rfl)]) ?_
            refine v_if_eq C 582 d_Lw_law_575 (by decide) (fun z => absurd z cu) (fun _ => ?_)
            refine v_iconst C (v := 1) d_Lw_law_578 (by decide) ?_
            refine v_goto C 583 d_Lw_law_579 (by decide) ?_
            refine v_callV C (As := [.int 1]) (rest := []) ho1 cl_Bs rfl w_355 w_356 (op_waiting hT (by omega) 1) (Nat.le_of_ble_eq_true rfl) (Nat.le_of_ble_eq_true rfl) w_357 w_1 hy_Bs_waiting w_354 rfl (Nat.le_of_ble_eq_true rfl) (room_ok (by omega) (by omega)) d_Lw_law_583 (fun rv M hp => ?_)
            obtain ⟨⟨v, rfl⟩, ⟨fs2, ho2⟩, ct2⟩ := hp
            refine V.eqst (st' := [.int v]) rfl ?_
            refine v_aload_n C (i := 2) d_Lw_law_586 rfl rfl ?_
            refine v_aload_n C (i := 0) d_Lw_law_587 rfl rfl ?_
            refine v_iload_n C (i := 3) d_Lw_law_588 rfl rfl ?_
            refine v_iconst C (v := 1) d_Lw_law_589 (by decide) ?_
            refine v_iadd C d_Lw_law_590 ?_
            refine V.eqst (st' := [.int (nI (2 + 4 * j + 1)), .ref b, .ref o2, .int v]) (by rw [nI_1]) ?_
            refine v_sld C hX hbl hbA (pk_in (2 + 4 * j + 1) L (by omega)) d_Lw_law_591 ?_
            refine V.eqst (st' := [.int (xs (2 + 4 * j + 1)), .ref o2, .int v]) (by rw [show Int32.toNatClampNeg (nI (2 + 4 * j + 1)) = 2 + 4 * j + 1 from pk_cl _ (hx := rfl)]) ?_
            refine v_if_eq C 599 d_Lw_law_592 (by decide) (fun z => absurd z cu) (fun _ => ?_)
            refine v_iconst C (v := 1) d_Lw_law_595 (by decide) ?_
            refine v_goto C 600 d_Lw_law_596 (by decide) ?_
            refine v_callV C (As := [.int 1]) (rest := [.int v]) ho2 cl_Md rfl w_567 w_568 (ct2) (Nat.le_of_ble_eq_true rfl) (Nat.le_of_ble_eq_true rfl) w_569 w_6 hy_Md_waiting w_566 rfl (Nat.le_of_ble_eq_true rfl) (room_ok (by omega) (by omega)) d_Lw_law_600 (fun rv M hp => ?_)
            obtain ⟨rfl, hT2⟩ := hp
            refine V.eqst (st' := [.int v, .int v]) rfl ?_
            refine v_icmp_eq C 631 d_Lw_law_603 (by decide) (fun _ => ?_) (fun z => absurd rfl z)
            exact hnext M _ _ (by rw [show 3 * (j + 1) = 3 * j + 3 by omega]; exact hT2) (by omega) (by omega)
        · refine v_tableIn C 608 d_Lw_law_52 (by decide) (by decide) rfl (by decide) ?_
          refine v_aload_n C (i := 1) d_Lw_law_608 rfl rfl ?_
          refine v_aload_n C (i := 0) d_Lw_law_609 rfl rfl ?_
          refine v_iload_n C (i := 3) d_Lw_law_610 rfl rfl ?_
          refine v_iconst C (v := 1) d_Lw_law_611 (by decide) ?_
          refine v_iadd C d_Lw_law_612 ?_
          refine V.eqst (st' := [.int (nI (2 + 4 * j + 1)), .ref b, .ref o1]) (by rw [nI_1]) ?_
          refine v_sld C hX hbl hbA (pk_in (2 + 4 * j + 1) L (by omega)) d_Lw_law_613 ?_
          refine V.eqst (st' := [.int (xs (2 + 4 * j + 1)), .ref o1]) (by rw [show Int32.toNatClampNeg (nI (2 + 4 * j + 1)) = 2 + 4 * j + 1 from pk_cl _ (hx := rfl)]) ?_
          refine v_callV C (As := [.int (xs (2 + 4 * j + 1))]) (rest := []) ho1 cl_Bs rfl w_359 w_360 (op_count hT (by omega) (xs (2 + 4 * j + 1))) (Nat.le_of_ble_eq_true rfl) (Nat.le_of_ble_eq_true rfl) w_361 w_1 hy_Bs_count w_358 rfl (Nat.le_of_ble_eq_true rfl) (room_ok (by omega) (by omega)) d_Lw_law_614 (fun rv M hp => ?_)
          obtain ⟨⟨v, rfl⟩, ⟨fs2, ho2⟩, ct2⟩ := hp
          refine V.eqst (st' := [.int v]) rfl ?_
          refine v_aload_n C (i := 2) d_Lw_law_617 rfl rfl ?_
          refine v_aload_n C (i := 0) d_Lw_law_618 rfl rfl ?_
          refine v_iload_n C (i := 3) d_Lw_law_619 rfl rfl ?_
          refine v_iconst C (v := 1) d_Lw_law_620 (by decide) ?_
          refine v_iadd C d_Lw_law_621 ?_
          refine V.eqst (st' := [.int (nI (2 + 4 * j + 1)), .ref b, .ref o2, .int v]) (by rw [nI_1]) ?_
          refine v_sld C hX hbl hbA (pk_in (2 + 4 * j + 1) L (by omega)) d_Lw_law_622 ?_
          refine V.eqst (st' := [.int (xs (2 + 4 * j + 1)), .ref o2, .int v]) (by rw [show Int32.toNatClampNeg (nI (2 + 4 * j + 1)) = 2 + 4 * j + 1 from pk_cl _ (hx := rfl)]) ?_
          refine v_callV C (As := [.int (xs (2 + 4 * j + 1))]) (rest := [.int v]) ho2 cl_Md rfl w_571 w_572 (ct2) (Nat.le_of_ble_eq_true rfl) (Nat.le_of_ble_eq_true rfl) w_573 w_6 hy_Md_count w_570 rfl (Nat.le_of_ble_eq_true rfl) (room_ok (by omega) (by omega)) d_Lw_law_623 (fun rv M hp => ?_)
          obtain ⟨rfl, hT2⟩ := hp
          refine V.eqst (st' := [.int v, .int v]) rfl ?_
          refine v_icmp_eq C 631 d_Lw_law_626 (by decide) (fun _ => ?_) (fun z => absurd rfl z)
          exact hnext M _ _ (by rw [show 3 * (j + 1) = 3 * j + 3 by omega]; exact hT2) (by omega) (by omega)
      · refine v_tableOut C 631 d_Lw_law_52 (Or.inr (by rw [nI_toInt (by omega)]; omega)) (by decide) ?_
        exact hnext M _ _ (hT.up (by omega)) (by omega) (by omega)
