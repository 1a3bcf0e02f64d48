-- part 56: bytes; append, appendBytes of both (printed by wip/whole/gen/p56.py)
theorem i32_rng (x : Int32) : -2147483648 ≤ x.toInt ∧ x.toInt ≤ 2147483647 := ⟨Int32.le_toInt x, Int32.toInt_le x⟩
/-- one byte of an int: the model's form, the class's form -/
def bM (v s : Int) : Int := (Int32.ofInt (Int32.ofInt v >>> (Int32.ofInt s &&& 31)).toInt &&& Int32.ofInt 255).toInt
def bC (v s : Int) : Int := (Int32.ofInt ((Int32.ofInt v).toUInt32 >>> ((Int32.ofInt s).toUInt32 &&& Int32.toUInt32 31)).toInt32.toInt &&& Int32.ofInt 255).toInt
theorem and255 (x : BitVec 32) : (x &&& 255#32).toNat ≤ 255 := by
  rw [BitVec.toNat_and]
  exact Nat.and_le_right
theorem bM_rng (v s : Int) : 0 ≤ bM v s ∧ bM v s ≤ 255 := by
  unfold bM
  generalize Int32.ofInt (Int32.ofInt v >>> (Int32.ofInt s &&& 31)).toInt = y
  have h := and255 y.toBitVec
  have e : (y &&& Int32.ofInt 255).toInt = (y.toBitVec &&& 255#32).toInt := rfl
  rw [e, BitVec.toInt_eq_toNat_of_lt (by omega)]
  omega
theorem byt_bits (x : BitVec 32) (s : Nat) (hs : s ≤ 24) : (x >>> s) &&& 255#32 = (x.sshiftRight s) &&& 255#32 := by
  apply BitVec.eq_of_getLsbD_eq
  intro i hi
  rw [BitVec.getLsbD_and, BitVec.getLsbD_and, BitVec.getLsbD_ushiftRight, BitVec.getLsbD_sshiftRight]
  by_cases h8 : i < 8
  · have h1 : s + i < 32 := by omega
    have h2 : ¬ 32 ≤ i := by omega
    simp [h1, h2]
  · have h3 : (255#32).getLsbD i = false := by
      have e : (255#32) = BitVec.ofNat 32 (2 ^ 8 - 1) := rfl
      rw [e, BitVec.getLsbD_ofNat, Nat.testBit_two_pow_sub_one]
      simp [h8]
    rw [h3, Bool.and_false, Bool.and_false]
theorem byt_eq (v s : Int) (hs : s = 24 ∨ s = 16 ∨ s = 8 ∨ s = 0) : bC v s = bM v s := by
  unfold bC bM
  rw [Int32.ofInt_toInt, Int32.ofInt_toInt]
  congr 1
  apply Int32.toBitVec_inj.mp
  rcases hs with rfl | rfl | rfl | rfl
  · exact byt_bits (Int32.ofInt v).toBitVec 24 (by decide)
  · exact byt_bits (Int32.ofInt v).toBitVec 16 (by decide)
  · exact byt_bits (Int32.ofInt v).toBitVec 8 (by decide)
  · exact byt_bits (Int32.ofInt v).toBitVec 0 (by decide)
/-- which of the five ints has the byte j -/
def apV (a b c d e j : Int) : Int := if j < 4 then a else if j < 8 then b else if j < 12 then c else if j < 16 then d else e
/-- the text with bytes behind it, and the rest as it was -/
def apI (mi m : aM) (v n : Int) : Prop := m 18 1 = mi 18 1 + n ∧ (∀ j : Int, 0 ≤ j → j < n → m 19 (mi 18 1 + j) = bM v (24 - 8 * j)) ∧ ∀ (x : Nat) (j : Int), (x ≠ 19 ∨ j < mi 18 1 ∨ mi 18 1 + n ≤ j) → (x ≠ 18 ∨ j ≠ 1) → m x j = mi x j
theorem apI_step {mi m : aM} {v n y : Int} (h : apI mi m v n) (hn : 0 ≤ n) (hy : y = bM v (24 - 8 * n)) : apI mi (aup (aup m 19 (m 18 1) y) 18 1 (m 18 1 + 1)) v (n + 1) := by
  obtain ⟨h1, h2, h3⟩ := h
  refine ⟨by rw [aup_eq]; omega, fun j j0 j1 => ?_, fun x j a c => ?_⟩
  · rw [aup_a (by decide)]
    by_cases e : j = n
    · subst e; rw [h1, aup_eq, hy]
    · rw [aup_k (by omega)]; exact h2 j j0 (by omega)
  · have e1 : aup (aup m 19 (m 18 1) y) 18 1 (m 18 1 + 1) x j = aup m 19 (m 18 1) y x j := by rcases c with c | c; (exact aup_a c); (exact aup_k c)
    rw [e1]
    have e2 : aup m 19 (m 18 1) y x j = m x j := by rcases a with a | a | a; (exact aup_a a); (exact aup_k (by omega)); (exact aup_k (by omega))
    rw [e2]
    exact h3 x j (by omega) c
theorem l_app {mr : aR} (hR : Rok mr) {mi : aM} {v : Int} (h1 : 0 ≤ mi 18 1 ∧ mi 18 1 + 4 ≤ 300) (h_v : -2147483648 ≤ v ∧ v ≤ 2147483647) : ∀ (n : Nat) (m : aM) (z i : Int), apI mi m v i → z = 24 - 8 * i → (0 ≤ i ∧ i ≤ 4) → 4 - i < n → AWm RX3 cX3_append 3 1 (Pv mr (fun m => apI mi m v 4)) 3 [(0, .ref 18), (1, iI v), (2, iI z)] [] m mr := by
  intro n
  induction n with
  | zero => intro m z i hI hz h2 h3; omega
  | succ n ih =>
    intro m z i hI hz h2 h3
    have hl := hI.1
    refine aw_iload_n (i := 2) (q := 2) dX3_append_3 rfl rfl ?_
    refine aw_if_lt (tgt := 49) dX3_append_4 (by decide) (by first | assumption | omega) (fun c4 => ?_) (fun c4 => ?_)
    · exact aw_vret ⟨rfl, rfl, rfl, (by rw [← show i = 4 by omega]; exact hI)⟩ (Nat.le_refl _) (Nat.le_refl _) dX3_append_49
    · refine aw_aload_n (i := 0) (q := 0) dX3_append_7 rfl rfl ?_
      refine aw_getIk (x := m 18 1) 1 flX3_15 SH_18 (by decide) rfl rfl rfl dX3_append_8 (fun r8 => ?_)
      refine aw_sipush (x := 300) dX3_append_11 rfl ?_
      refine aw_icmp_ge (tgt := 49) dX3_append_14 (by decide) (by first | assumption | omega) (by decide) (fun c14 => ?_) (fun c14 => ?_)
      · exact aw_vret ⟨rfl, rfl, rfl, (by rw [← show i = 4 by omega]; exact hI)⟩ (Nat.le_refl _) (Nat.le_refl _) dX3_append_49
      · refine aw_aload_n (i := 0) (q := 0) dX3_append_17 rfl rfl ?_
        refine aw_getR (r := 19) flX3_9 SH_18 (by decide) rfl (rk_18_0 hR) dX3_append_18 ?_
        refine aw_aload_n (i := 0) (q := 0) dX3_append_21 rfl rfl ?_
        refine aw_getIk (x := m 18 1) 1 flX3_15 SH_18 (by decide) rfl rfl rfl dX3_append_22 (fun r22 => ?_)
        refine aw_iload_n (i := 1) (q := 1) dX3_append_25 rfl rfl ?_
        refine aw_iload_n (i := 2) (q := 2) dX3_append_26 rfl rfl ?_
        refine aw_iushr (z := ((Int32.ofInt v).toUInt32 >>> ((Int32.ofInt z).toUInt32 &&& Int32.toUInt32 31)).toInt32.toInt) dX3_append_27 (Int32.ofInt_toInt _).symm ?_
        refine aw_sipush (x := 255) dX3_append_28 rfl ?_
        refine aw_iand (z := (Int32.ofInt (((Int32.ofInt v).toUInt32 >>> ((Int32.ofInt z).toUInt32 &&& Int32.toUInt32 31)).toInt32.toInt) &&& Int32.ofInt 255).toInt) dX3_append_31 (Int32.ofInt_toInt _).symm ?_
        have hb9 := i32_rng (Int32.ofInt ((Int32.ofInt v).toUInt32 >>> ((Int32.ofInt z).toUInt32 &&& Int32.toUInt32 31)).toInt32.toInt &&& Int32.ofInt 255)
        refine aw_iast SH_19 (by decide) ⟨by omega, by omega⟩ (by first | assumption | omega) dX3_append_32 ?_
        refine aw_aload_n (i := 0) (q := 0) dX3_append_33 rfl rfl ?_
        refine aw_dup dX3_append_34 rfl ?_
        refine aw_getIk (x := m 18 1) 1 flX3_15 SH_18 (by decide) rfl rfl (by (rw [aup_a (by decide)]) <;> rfl) dX3_append_35 (fun r35 => ?_)
        refine aw_iconst dX3_append_38 ?_
        refine aw_iadd dX3_append_39 ?_
        refine aw_putIk 1 flX3_15 SH_18 (by decide) rfl rfl rfl (by first | assumption | omega) dX3_append_40 ?_
        refine aw_iinc (i := 2) (q := 2) (x := z) (lv' := [(0, .ref 18), (1, iI v), (2, iI (z + -8))]) [1, 2, 0] dX3_append_43 rfl (by decide) rfl ?_
        refine aw_goto (tgt := 3) dX3_append_46 (by decide) ?_
        exact ih _ (z + -8) (i + 1) (apI_step hI (by omega) (by rw [← show bC v z = bM v (24 - 8 * i) by rw [byt_eq v z (by omega), show 24 - 8 * i = z by omega]]; rfl)) (by omega) (by omega) (by omega)
theorem s_X3_append {mr : aR} (hR : Rok mr) {mi : aM} {v : Int} (h1 : 0 ≤ mi 18 1 ∧ mi 18 1 + 4 ≤ 300) (h_v : -2147483648 ≤ v ∧ v ≤ 2147483647) : SPg yX3_append cX3_append 3 none 1 [.ref 18, iI v] mi mr (Pv mr (fun m => apI mi m v 4)) := by
  refine SPg.void rfl (by decide +kernel) (Nat.le_of_ble_eq_true rfl) ?_
  show AWm RX3 cX3_append 3 1 _ 0 [(0, .ref 18), (1, iI v)] [] mi mr
  refine aw_bipush (x := 24) dX3_append_0 rfl ?_
  refine aw_istore_n (i := 2) (lv' := [(0, .ref 18), (1, iI v), (2, iI 24)]) [1, 2, 0] dX3_append_2 rfl (by decide) rfl ?_
  exact l_app hR h1 h_v 5 mi 24 0 ⟨by omega, fun j j0 j1 => by omega, fun _ _ _ _ => rfl⟩ rfl (by omega) (by omega)
def tx5 (mi m : aM) (a b c d e : Int) : Prop := m 18 1 = mi 18 1 + 20 ∧ (∀ j : Int, 0 ≤ j → j < 20 → m 19 (mi 18 1 + j) = bM (apV a b c d e j) (24 - 8 * (j % 4))) ∧ ∀ (x : Nat) (j : Int), (x ≠ 19 ∨ j < mi 18 1 ∨ mi 18 1 + 20 ≤ j) → (x ≠ 18 ∨ j ≠ 1) → m x j = mi x j
theorem tx5_of {mi m1 m2 m3 m4 m5 : aM} {a b c d e : Int} (h1 : apI mi m1 a 4) (h2 : apI m1 m2 b 4) (h3 : apI m2 m3 c 4) (h4 : apI m3 m4 d 4) (h5 : apI m4 m5 e 4) : tx5 mi m5 a b c d e := by
  obtain ⟨a1, b1, c1⟩ := h1
  obtain ⟨a2, b2, c2⟩ := h2
  obtain ⟨a3, b3, c3⟩ := h3
  obtain ⟨a4, b4, c4⟩ := h4
  obtain ⟨a5, b5, c5⟩ := h5
  refine ⟨by omega, fun j j0 j1 => ?_, fun x j p q => ?_⟩
  · have hc : j < 4 ∨ (4 ≤ j ∧ j < 8) ∨ (8 ≤ j ∧ j < 12) ∨ (12 ≤ j ∧ j < 16) ∨ 16 ≤ j := by omega
    rcases hc with k | k | k | k | k
    · rw [c5 19 _ (by omega) (by omega), c4 19 _ (by omega) (by omega), c3 19 _ (by omega) (by omega), c2 19 _ (by omega) (by omega), b1 j j0 (by omega), show apV a b c d e j = a by (unfold apV; rw [if_pos (by omega)]), show j % 4 = j by omega]
    · rw [c5 19 _ (by omega) (by omega), c4 19 _ (by omega) (by omega), c3 19 _ (by omega) (by omega), show mi 18 1 + j = m1 18 1 + (j - 4) by omega, b2 (j - 4) (by omega) (by omega), show apV a b c d e j = b by (unfold apV; rw [if_neg (by omega), if_pos (by omega)]), show j % 4 = j - 4 by omega]
    · rw [c5 19 _ (by omega) (by omega), c4 19 _ (by omega) (by omega), show mi 18 1 + j = m2 18 1 + (j - 8) by omega, b3 (j - 8) (by omega) (by omega), show apV a b c d e j = c by (unfold apV; rw [if_neg (by omega), if_neg (by omega), if_pos (by omega)]), show j % 4 = j - 8 by omega]
    · rw [c5 19 _ (by omega) (by omega), show mi 18 1 + j = m3 18 1 + (j - 12) by omega, b4 (j - 12) (by omega) (by omega), show apV a b c d e j = d by (unfold apV; rw [if_neg (by omega), if_neg (by omega), if_neg (by omega), if_pos (by omega)]), show j % 4 = j - 12 by omega]
    · rw [show mi 18 1 + j = m4 18 1 + (j - 16) by omega, b5 (j - 16) (by omega) (by omega), show apV a b c d e j = e by (unfold apV; rw [if_neg (by omega), if_neg (by omega), if_neg (by omega), if_neg (by omega)]), show j % 4 = j - 16 by omega]
  · rw [c5 x j (by omega) q, c4 x j (by omega) q, c3 x j (by omega) q, c2 x j (by omega) q]
    exact c1 x j (by omega) q
theorem s_X6_appendBytes {mr : aR} (hR : Rok mr) {mi : aM} {a b c d e : Int} (h_a : -2147483648 ≤ a ∧ a ≤ 2147483647) (h_b : -2147483648 ≤ b ∧ b ≤ 2147483647) (h_c : -2147483648 ≤ c ∧ c ≤ 2147483647) (h_d : -2147483648 ≤ d ∧ d ≤ 2147483647) (h_e : -2147483648 ≤ e ∧ e ≤ 2147483647) (h1 : 0 ≤ mi 18 1 ∧ mi 18 1 ≤ 300) : SPg yX6_appendBytes cX6_appendBytes 6 (some .int) 2 [.ref 1, iI a, iI b, iI c, iI d, iI e] mi mr (Pi mr (fun r m => (280 < mi 18 1 ∧ r = -4 ∧ m = mi) ∨ (mi 18 1 ≤ 280 ∧ r = mi 18 1 + 20 ∧ tx5 mi m a b c d e))) := by
  refine SPg.int rfl (by decide +kernel) (Nat.le_of_ble_eq_true rfl) ?_
  show AWm RX6 cX6_appendBytes 6 2 _ 0 [(0, .ref 1), (1, iI a), (2, iI b), (3, iI c), (4, iI d), (5, iI e)] [] mi mr
  refine aw_aload_n (i := 0) (q := 0) dX6_appendBytes_0 rfl rfl ?_
  refine aw_getR (r := 18) flX6_40 SH_1 (by decide) rfl (rk_1_5 hR) dX6_appendBytes_1 ?_
  refine aw_getIk (x := mi 18 1) 1 flX6_175 SH_18 (by decide) rfl rfl rfl dX6_appendBytes_4 (fun r4 => ?_)
  refine aw_bipush (x := 20) dX6_appendBytes_7 rfl ?_
  refine aw_iadd dX6_appendBytes_9 ?_
  refine aw_sipush (x := 300) dX6_appendBytes_10 rfl ?_
  refine aw_icmp_le (tgt := 19) dX6_appendBytes_13 (by decide) (by first | assumption | omega) (by decide) (fun c13 => ?_) (fun c13 => ?_)
  · refine aw_aload_n (i := 0) (q := 0) dX6_appendBytes_19 rfl rfl ?_
    refine aw_getR (r := 18) flX6_40 SH_1 (by decide) rfl (rk_1_5 hR) dX6_appendBytes_20 ?_
    refine aw_iload_n (i := 1) (q := 1) dX6_appendBytes_23 rfl rfl ?_
    refine aw_cVv (As := [iI a]) (st := []) clX6_178 (s_X3_append (mi := mi) hR (by omega) (by omega)) SH_18 rfl (by decide) rfl rfl (Nat.le_of_ble_eq_true rfl) (by decide) (by decide) (Nat.le_refl _) (Nat.le_refl _) dX6_appendBytes_24 (fun m1 hm1 => ?_)
    have hl1 := hm1.1
    refine aw_aload_n (i := 0) (q := 0) dX6_appendBytes_27 rfl rfl ?_
    refine aw_getR (r := 18) flX6_40 SH_1 (by decide) rfl (rk_1_5 hR) dX6_appendBytes_28 ?_
    refine aw_iload_n (i := 2) (q := 2) dX6_appendBytes_31 rfl rfl ?_
    refine aw_cVv (As := [iI b]) (st := []) clX6_178 (s_X3_append (mi := m1) hR (by omega) (by omega)) SH_18 rfl (by decide) rfl rfl (Nat.le_of_ble_eq_true rfl) (by decide) (by decide) (Nat.le_refl _) (Nat.le_refl _) dX6_appendBytes_32 (fun m2 hm2 => ?_)
    have hl2 := hm2.1
    refine aw_aload_n (i := 0) (q := 0) dX6_appendBytes_35 rfl rfl ?_
    refine aw_getR (r := 18) flX6_40 SH_1 (by decide) rfl (rk_1_5 hR) dX6_appendBytes_36 ?_
    refine aw_iload_n (i := 3) (q := 3) dX6_appendBytes_39 rfl rfl ?_
    refine aw_cVv (As := [iI c]) (st := []) clX6_178 (s_X3_append (mi := m2) hR (by omega) (by omega)) SH_18 rfl (by decide) rfl rfl (Nat.le_of_ble_eq_true rfl) (by decide) (by decide) (Nat.le_refl _) (Nat.le_refl _) dX6_appendBytes_40 (fun m3 hm3 => ?_)
    have hl3 := hm3.1
    refine aw_aload_n (i := 0) (q := 0) dX6_appendBytes_43 rfl rfl ?_
    refine aw_getR (r := 18) flX6_40 SH_1 (by decide) rfl (rk_1_5 hR) dX6_appendBytes_44 ?_
    refine aw_iload (i := 4) (q := 4) dX6_appendBytes_47 rfl ?_
    refine aw_cVv (As := [iI d]) (st := []) clX6_178 (s_X3_append (mi := m3) hR (by omega) (by omega)) SH_18 rfl (by decide) rfl rfl (Nat.le_of_ble_eq_true rfl) (by decide) (by decide) (Nat.le_refl _) (Nat.le_refl _) dX6_appendBytes_49 (fun m4 hm4 => ?_)
    have hl4 := hm4.1
    refine aw_aload_n (i := 0) (q := 0) dX6_appendBytes_52 rfl rfl ?_
    refine aw_getR (r := 18) flX6_40 SH_1 (by decide) rfl (rk_1_5 hR) dX6_appendBytes_53 ?_
    refine aw_iload (i := 5) (q := 5) dX6_appendBytes_56 rfl ?_
    refine aw_cVv (As := [iI e]) (st := []) clX6_178 (s_X3_append (mi := m4) hR (by omega) (by omega)) SH_18 rfl (by decide) rfl rfl (Nat.le_of_ble_eq_true rfl) (by decide) (by decide) (Nat.le_refl _) (Nat.le_refl _) dX6_appendBytes_58 (fun m5 hm5 => ?_)
    have hl5 := hm5.1
    refine aw_aload_n (i := 0) (q := 0) dX6_appendBytes_61 rfl rfl ?_
    refine aw_getR (r := 18) flX6_40 SH_1 (by decide) rfl (rk_1_5 hR) dX6_appendBytes_62 ?_
    refine aw_getIk (x := m5 18 1) 1 flX6_175 SH_18 (by decide) rfl rfl rfl dX6_appendBytes_65 (fun r65 => ?_)
    exact aw_iret ⟨_, rfl, rfl, rfl, Or.inr ⟨by omega, by omega, tx5_of hm1 hm2 hm3 hm4 hm5⟩⟩ (Nat.le_refl _) (Nat.le_refl _) dX6_appendBytes_68
  · refine aw_bipush (x := -4) dX6_appendBytes_16 rfl ?_
    exact aw_iret ⟨_, rfl, rfl, rfl, Or.inl ⟨by omega, rfl, rfl⟩⟩ (Nat.le_refl _) (Nat.le_refl _) dX6_appendBytes_18
def mx5 (mi m : aM) (a b c d e n : Int) : Prop := m 58 23 = mi 58 23 + n ∧ (∀ j : Int, 0 ≤ j → j < n → m 71 (mi 58 23 + j) = bM (apV a b c d e j) (24 - 8 * (j % 4))) ∧ ∀ (x : Nat) (j : Int), (x ≠ 71 ∨ j < mi 58 23 ∨ mi 58 23 + n ≤ j) → (x ≠ 58 ∨ j ≠ 23) → m x j = mi x j
theorem mx5_step {mi m : aM} {a b c d e n y : Int} (h : mx5 mi m a b c d e n) (hn : 0 ≤ n) (hy : y = bM (apV a b c d e n) (24 - 8 * (n % 4))) : mx5 mi (aup (aup m 71 (m 58 23) y) 58 23 (m 58 23 + 1)) a b c d e (n + 1) := by
  obtain ⟨h1, h2, h3⟩ := h
  refine ⟨by rw [aup_eq]; omega, fun j j0 j1 => ?_, fun x j a c => ?_⟩
  · rw [aup_a (by decide)]
    by_cases e : j = n
    · subst e; rw [h1, aup_eq, hy]
    · rw [aup_k (by omega)]; exact h2 j j0 (by omega)
  · have e1 : aup (aup m 71 (m 58 23) y) 58 23 (m 58 23 + 1) x j = aup m 71 (m 58 23) y x j := by rcases c with c | c; (exact aup_a c); (exact aup_k c)
    rw [e1]
    have e2 : aup m 71 (m 58 23) y x j = m x j := by rcases a with a | a | a; (exact aup_a a); (exact aup_k (by omega)); (exact aup_k (by omega))
    rw [e2]
    exact h3 x j (by omega) c
theorem l_mapp {mr : aR} (hR : Rok mr) {mi : aM} {a b c d e : Int} (h_a : -2147483648 ≤ a ∧ a ≤ 2147483647) (h_b : -2147483648 ≤ b ∧ b ≤ 2147483647) (h_c : -2147483648 ≤ c ∧ c ≤ 2147483647) (h_d : -2147483648 ≤ d ∧ d ≤ 2147483647) (h_e : -2147483648 ≤ e ∧ e ≤ 2147483647) (h1 : 0 ≤ mi 58 23 ∧ mi 58 23 ≤ 280) : ∀ (n : Nat) (m : aM) (z : Int), mx5 mi m a b c d e z → (0 ≤ z ∧ z ≤ 20) → 20 - z < n → AWm RX7 cX7_appendBytes 8 2 (Pi mr (fun r m => (280 < mi 58 23 ∧ r = -4 ∧ m = mi) ∨ (mi 58 23 ≤ 280 ∧ r = mi 58 23 + 20 ∧ mx5 mi m a b c d e 20))) 24 [(0, .ref 58), (1, iI a), (2, iI b), (3, iI c), (4, iI d), (5, iI e), (6, iI z)] [] m mr := by
  intro n
  induction n with
  | zero => intro m z hI h2 h3; omega
  | succ n ih =>
    intro m z hI h2 h3
    have hl := hI.1
    have hq9 : z - z.tdiv 4 * 4 = z % 4 := by rw [Int.tdiv_eq_ediv_of_nonneg (by omega)]; omega
    refine aw_iload (i := 6) (q := 6) dX7_appendBytes_24 rfl ?_
    refine aw_bipush (x := 20) dX7_appendBytes_26 rfl ?_
    refine aw_icmp_ge (tgt := 121) dX7_appendBytes_28 (by decide) (by first | assumption | omega) (by decide) (fun c28 => ?_) (fun c28 => ?_)
    · refine aw_aload_n (i := 0) (q := 0) dX7_appendBytes_121 rfl rfl ?_
      refine aw_getIk (x := m 58 23) 23 flX7_197 SH_58 (by decide) rfl rfl rfl dX7_appendBytes_122 (fun r122 => ?_)
      exact aw_iret ⟨_, rfl, rfl, rfl, Or.inr ⟨by omega, by omega, by rw [← show z = 20 by omega]; exact hI⟩⟩ (Nat.le_refl _) (Nat.le_refl _) dX7_appendBytes_125
    · refine aw_iload (i := 6) (q := 6) dX7_appendBytes_31 rfl ?_
      refine aw_iconst dX7_appendBytes_33 ?_
      refine aw_icmp_ge (tgt := 41) dX7_appendBytes_34 (by decide) (by first | assumption | omega) (by decide) (fun c34 => ?_) (fun c34 => ?_)
      · refine aw_iload (i := 6) (q := 6) dX7_appendBytes_41 rfl ?_
        refine aw_bipush (x := 8) dX7_appendBytes_43 rfl ?_
        refine aw_icmp_ge (tgt := 52) dX7_appendBytes_45 (by decide) (by first | assumption | omega) (by decide) (fun c45 => ?_) (fun c45 => ?_)
        · refine aw_iload (i := 6) (q := 6) dX7_appendBytes_52 rfl ?_
          refine aw_bipush (x := 12) dX7_appendBytes_54 rfl ?_
          refine aw_icmp_ge (tgt := 63) dX7_appendBytes_56 (by decide) (by first | assumption | omega) (by decide) (fun c56 => ?_) (fun c56 => ?_)
          · refine aw_iload (i := 6) (q := 6) dX7_appendBytes_63 rfl ?_
            refine aw_bipush (x := 16) dX7_appendBytes_65 rfl ?_
            refine aw_icmp_ge (tgt := 75) dX7_appendBytes_67 (by decide) (by first | assumption | omega) (by decide) (fun c67 => ?_) (fun c67 => ?_)
            · refine aw_iload (i := 5) (q := 5) dX7_appendBytes_75 rfl ?_
              refine aw_istore (i := 7) (lv' := [(0, .ref 58), (1, iI a), (2, iI b), (3, iI c), (4, iI d), (5, iI e), (6, iI z), (7, iI e)]) [1, 2, 3, 4, 5, 6, 7, 0] dX7_appendBytes_77 (by decide) rfl ?_
              refine aw_aload_n (i := 0) (q := 0) dX7_appendBytes_79 rfl rfl ?_
              refine aw_getR (r := 71) flX7_51 SH_58 (by decide) rfl (rk_58_19 hR) dX7_appendBytes_80 ?_
              refine aw_aload_n (i := 0) (q := 0) dX7_appendBytes_83 rfl rfl ?_
              refine aw_getIk (x := m 58 23) 23 flX7_197 SH_58 (by decide) rfl rfl rfl dX7_appendBytes_84 (fun r84 => ?_)
              refine aw_iload (i := 7) (q := 7) dX7_appendBytes_87 rfl ?_
              refine aw_bipush (x := 24) dX7_appendBytes_89 rfl ?_
              refine aw_bipush (x := 8) dX7_appendBytes_91 rfl ?_
              refine aw_iload (i := 6) (q := 6) dX7_appendBytes_93 rfl ?_
              refine aw_iconst dX7_appendBytes_95 ?_
              refine aw_irem dX7_appendBytes_96 (by first | assumption | omega) (by decide) (by omega) (by omega) ?_
              refine aw_imul dX7_appendBytes_97 ?_
              refine aw_isub dX7_appendBytes_98 ?_
              refine aw_ishr (z := (Int32.ofInt e >>> (Int32.ofInt (24 - (8 * (z - z.tdiv 4 * 4))) &&& 31)).toInt) dX7_appendBytes_99 (Int32.ofInt_toInt _).symm ?_
              refine aw_sipush (x := 255) dX7_appendBytes_100 rfl ?_
              refine aw_iand (z := (Int32.ofInt ((Int32.ofInt e >>> (Int32.ofInt (24 - (8 * (z - z.tdiv 4 * 4))) &&& 31)).toInt) &&& Int32.ofInt 255).toInt) dX7_appendBytes_103 (Int32.ofInt_toInt _).symm ?_
              have hb9 := i32_rng (Int32.ofInt (Int32.ofInt e >>> (Int32.ofInt (24 - 8 * (z - z.tdiv 4 * 4)) &&& 31)).toInt &&& Int32.ofInt 255)
              refine aw_iast SH_71 (by decide) ⟨by omega, by omega⟩ (by first | assumption | omega) dX7_appendBytes_104 ?_
              refine aw_aload_n (i := 0) (q := 0) dX7_appendBytes_105 rfl rfl ?_
              refine aw_dup dX7_appendBytes_106 rfl ?_
              refine aw_getIk (x := m 58 23) 23 flX7_197 SH_58 (by decide) rfl rfl (by (rw [aup_a (by decide)]) <;> rfl) dX7_appendBytes_107 (fun r107 => ?_)
              refine aw_iconst dX7_appendBytes_110 ?_
              refine aw_iadd dX7_appendBytes_111 ?_
              refine aw_putIk 23 flX7_197 SH_58 (by decide) rfl rfl rfl (by first | assumption | omega) dX7_appendBytes_112 ?_
              refine aw_sub (lv' := [(0, .ref 58), (1, iI a), (2, iI b), (3, iI c), (4, iI d), (5, iI e), (6, iI z)]) [0, 1, 2, 3, 4, 5, 6] rfl ?_
              refine aw_iinc (i := 6) (q := 6) (x := z) (lv' := [(0, .ref 58), (1, iI a), (2, iI b), (3, iI c), (4, iI d), (5, iI e), (6, iI (z + 1))]) [1, 2, 3, 4, 5, 6, 0] dX7_appendBytes_115 rfl (by decide) rfl ?_
              refine aw_goto (tgt := 24) dX7_appendBytes_118 (by decide) ?_
              exact ih _ (z + 1) (mx5_step hI (by omega) (by rw [← hq9, show apV a b c d e z = e by (unfold apV; (repeat' split) <;> first | rfl | omega)]; rfl)) (by omega) (by omega)
            · refine aw_iload (i := 4) (q := 4) dX7_appendBytes_70 rfl ?_
              refine aw_goto (tgt := 77) dX7_appendBytes_72 (by decide) ?_
              refine aw_istore (i := 7) (lv' := [(0, .ref 58), (1, iI a), (2, iI b), (3, iI c), (4, iI d), (5, iI e), (6, iI z), (7, iI d)]) [1, 2, 3, 4, 5, 6, 7, 0] dX7_appendBytes_77 (by decide) rfl ?_
              refine aw_aload_n (i := 0) (q := 0) dX7_appendBytes_79 rfl rfl ?_
              refine aw_getR (r := 71) flX7_51 SH_58 (by decide) rfl (rk_58_19 hR) dX7_appendBytes_80 ?_
              refine aw_aload_n (i := 0) (q := 0) dX7_appendBytes_83 rfl rfl ?_
              refine aw_getIk (x := m 58 23) 23 flX7_197 SH_58 (by decide) rfl rfl rfl dX7_appendBytes_84 (fun r84 => ?_)
              refine aw_iload (i := 7) (q := 7) dX7_appendBytes_87 rfl ?_
              refine aw_bipush (x := 24) dX7_appendBytes_89 rfl ?_
              refine aw_bipush (x := 8) dX7_appendBytes_91 rfl ?_
              refine aw_iload (i := 6) (q := 6) dX7_appendBytes_93 rfl ?_
              refine aw_iconst dX7_appendBytes_95 ?_
              refine aw_irem dX7_appendBytes_96 (by first | assumption | omega) (by decide) (by omega) (by omega) ?_
              refine aw_imul dX7_appendBytes_97 ?_
              refine aw_isub dX7_appendBytes_98 ?_
              refine aw_ishr (z := (Int32.ofInt d >>> (Int32.ofInt (24 - (8 * (z - z.tdiv 4 * 4))) &&& 31)).toInt) dX7_appendBytes_99 (Int32.ofInt_toInt _).symm ?_
              refine aw_sipush (x := 255) dX7_appendBytes_100 rfl ?_
              refine aw_iand (z := (Int32.ofInt ((Int32.ofInt d >>> (Int32.ofInt (24 - (8 * (z - z.tdiv 4 * 4))) &&& 31)).toInt) &&& Int32.ofInt 255).toInt) dX7_appendBytes_103 (Int32.ofInt_toInt _).symm ?_
              have hb9 := i32_rng (Int32.ofInt (Int32.ofInt d >>> (Int32.ofInt (24 - 8 * (z - z.tdiv 4 * 4)) &&& 31)).toInt &&& Int32.ofInt 255)
              refine aw_iast SH_71 (by decide) ⟨by omega, by omega⟩ (by first | assumption | omega) dX7_appendBytes_104 ?_
              refine aw_aload_n (i := 0) (q := 0) dX7_appendBytes_105 rfl rfl ?_
              refine aw_dup dX7_appendBytes_106 rfl ?_
              refine aw_getIk (x := m 58 23) 23 flX7_197 SH_58 (by decide) rfl rfl (by (rw [aup_a (by decide)]) <;> rfl) dX7_appendBytes_107 (fun r107 => ?_)
              refine aw_iconst dX7_appendBytes_110 ?_
              refine aw_iadd dX7_appendBytes_111 ?_
              refine aw_putIk 23 flX7_197 SH_58 (by decide) rfl rfl rfl (by first | assumption | omega) dX7_appendBytes_112 ?_
              refine aw_sub (lv' := [(0, .ref 58), (1, iI a), (2, iI b), (3, iI c), (4, iI d), (5, iI e), (6, iI z)]) [0, 1, 2, 3, 4, 5, 6] rfl ?_
              refine aw_iinc (i := 6) (q := 6) (x := z) (lv' := [(0, .ref 58), (1, iI a), (2, iI b), (3, iI c), (4, iI d), (5, iI e), (6, iI (z + 1))]) [1, 2, 3, 4, 5, 6, 0] dX7_appendBytes_115 rfl (by decide) rfl ?_
              refine aw_goto (tgt := 24) dX7_appendBytes_118 (by decide) ?_
              exact ih _ (z + 1) (mx5_step hI (by omega) (by rw [← hq9, show apV a b c d e z = d by (unfold apV; (repeat' split) <;> first | rfl | omega)]; rfl)) (by omega) (by omega)
          · refine aw_iload_n (i := 3) (q := 3) dX7_appendBytes_59 rfl rfl ?_
            refine aw_goto (tgt := 77) dX7_appendBytes_60 (by decide) ?_
            refine aw_istore (i := 7) (lv' := [(0, .ref 58), (1, iI a), (2, iI b), (3, iI c), (4, iI d), (5, iI e), (6, iI z), (7, iI c)]) [1, 2, 3, 4, 5, 6, 7, 0] dX7_appendBytes_77 (by decide) rfl ?_
            refine aw_aload_n (i := 0) (q := 0) dX7_appendBytes_79 rfl rfl ?_
            refine aw_getR (r := 71) flX7_51 SH_58 (by decide) rfl (rk_58_19 hR) dX7_appendBytes_80 ?_
            refine aw_aload_n (i := 0) (q := 0) dX7_appendBytes_83 rfl rfl ?_
            refine aw_getIk (x := m 58 23) 23 flX7_197 SH_58 (by decide) rfl rfl rfl dX7_appendBytes_84 (fun r84 => ?_)
            refine aw_iload (i := 7) (q := 7) dX7_appendBytes_87 rfl ?_
            refine aw_bipush (x := 24) dX7_appendBytes_89 rfl ?_
            refine aw_bipush (x := 8) dX7_appendBytes_91 rfl ?_
            refine aw_iload (i := 6) (q := 6) dX7_appendBytes_93 rfl ?_
            refine aw_iconst dX7_appendBytes_95 ?_
            refine aw_irem dX7_appendBytes_96 (by first | assumption | omega) (by decide) (by omega) (by omega) ?_
            refine aw_imul dX7_appendBytes_97 ?_
            refine aw_isub dX7_appendBytes_98 ?_
            refine aw_ishr (z := (Int32.ofInt c >>> (Int32.ofInt (24 - (8 * (z - z.tdiv 4 * 4))) &&& 31)).toInt) dX7_appendBytes_99 (Int32.ofInt_toInt _).symm ?_
            refine aw_sipush (x := 255) dX7_appendBytes_100 rfl ?_
            refine aw_iand (z := (Int32.ofInt ((Int32.ofInt c >>> (Int32.ofInt (24 - (8 * (z - z.tdiv 4 * 4))) &&& 31)).toInt) &&& Int32.ofInt 255).toInt) dX7_appendBytes_103 (Int32.ofInt_toInt _).symm ?_
            have hb9 := i32_rng (Int32.ofInt (Int32.ofInt c >>> (Int32.ofInt (24 - 8 * (z - z.tdiv 4 * 4)) &&& 31)).toInt &&& Int32.ofInt 255)
            refine aw_iast SH_71 (by decide) ⟨by omega, by omega⟩ (by first | assumption | omega) dX7_appendBytes_104 ?_
            refine aw_aload_n (i := 0) (q := 0) dX7_appendBytes_105 rfl rfl ?_
            refine aw_dup dX7_appendBytes_106 rfl ?_
            refine aw_getIk (x := m 58 23) 23 flX7_197 SH_58 (by decide) rfl rfl (by (rw [aup_a (by decide)]) <;> rfl) dX7_appendBytes_107 (fun r107 => ?_)
            refine aw_iconst dX7_appendBytes_110 ?_
            refine aw_iadd dX7_appendBytes_111 ?_
            refine aw_putIk 23 flX7_197 SH_58 (by decide) rfl rfl rfl (by first | assumption | omega) dX7_appendBytes_112 ?_
            refine aw_sub (lv' := [(0, .ref 58), (1, iI a), (2, iI b), (3, iI c), (4, iI d), (5, iI e), (6, iI z)]) [0, 1, 2, 3, 4, 5, 6] rfl ?_
            refine aw_iinc (i := 6) (q := 6) (x := z) (lv' := [(0, .ref 58), (1, iI a), (2, iI b), (3, iI c), (4, iI d), (5, iI e), (6, iI (z + 1))]) [1, 2, 3, 4, 5, 6, 0] dX7_appendBytes_115 rfl (by decide) rfl ?_
            refine aw_goto (tgt := 24) dX7_appendBytes_118 (by decide) ?_
            exact ih _ (z + 1) (mx5_step hI (by omega) (by rw [← hq9, show apV a b c d e z = c by (unfold apV; (repeat' split) <;> first | rfl | omega)]; rfl)) (by omega) (by omega)
        · refine aw_iload_n (i := 2) (q := 2) dX7_appendBytes_48 rfl rfl ?_
          refine aw_goto (tgt := 77) dX7_appendBytes_49 (by decide) ?_
          refine aw_istore (i := 7) (lv' := [(0, .ref 58), (1, iI a), (2, iI b), (3, iI c), (4, iI d), (5, iI e), (6, iI z), (7, iI b)]) [1, 2, 3, 4, 5, 6, 7, 0] dX7_appendBytes_77 (by decide) rfl ?_
          refine aw_aload_n (i := 0) (q := 0) dX7_appendBytes_79 rfl rfl ?_
          refine aw_getR (r := 71) flX7_51 SH_58 (by decide) rfl (rk_58_19 hR) dX7_appendBytes_80 ?_
          refine aw_aload_n (i := 0) (q := 0) dX7_appendBytes_83 rfl rfl ?_
          refine aw_getIk (x := m 58 23) 23 flX7_197 SH_58 (by decide) rfl rfl rfl dX7_appendBytes_84 (fun r84 => ?_)
          refine aw_iload (i := 7) (q := 7) dX7_appendBytes_87 rfl ?_
          refine aw_bipush (x := 24) dX7_appendBytes_89 rfl ?_
          refine aw_bipush (x := 8) dX7_appendBytes_91 rfl ?_
          refine aw_iload (i := 6) (q := 6) dX7_appendBytes_93 rfl ?_
          refine aw_iconst dX7_appendBytes_95 ?_
          refine aw_irem dX7_appendBytes_96 (by first | assumption | omega) (by decide) (by omega) (by omega) ?_
          refine aw_imul dX7_appendBytes_97 ?_
          refine aw_isub dX7_appendBytes_98 ?_
          refine aw_ishr (z := (Int32.ofInt b >>> (Int32.ofInt (24 - (8 * (z - z.tdiv 4 * 4))) &&& 31)).toInt) dX7_appendBytes_99 (Int32.ofInt_toInt _).symm ?_
          refine aw_sipush (x := 255) dX7_appendBytes_100 rfl ?_
          refine aw_iand (z := (Int32.ofInt ((Int32.ofInt b >>> (Int32.ofInt (24 - (8 * (z - z.tdiv 4 * 4))) &&& 31)).toInt) &&& Int32.ofInt 255).toInt) dX7_appendBytes_103 (Int32.ofInt_toInt _).symm ?_
          have hb9 := i32_rng (Int32.ofInt (Int32.ofInt b >>> (Int32.ofInt (24 - 8 * (z - z.tdiv 4 * 4)) &&& 31)).toInt &&& Int32.ofInt 255)
          refine aw_iast SH_71 (by decide) ⟨by omega, by omega⟩ (by first | assumption | omega) dX7_appendBytes_104 ?_
          refine aw_aload_n (i := 0) (q := 0) dX7_appendBytes_105 rfl rfl ?_
          refine aw_dup dX7_appendBytes_106 rfl ?_
          refine aw_getIk (x := m 58 23) 23 flX7_197 SH_58 (by decide) rfl rfl (by (rw [aup_a (by decide)]) <;> rfl) dX7_appendBytes_107 (fun r107 => ?_)
          refine aw_iconst dX7_appendBytes_110 ?_
          refine aw_iadd dX7_appendBytes_111 ?_
          refine aw_putIk 23 flX7_197 SH_58 (by decide) rfl rfl rfl (by first | assumption | omega) dX7_appendBytes_112 ?_
          refine aw_sub (lv' := [(0, .ref 58), (1, iI a), (2, iI b), (3, iI c), (4, iI d), (5, iI e), (6, iI z)]) [0, 1, 2, 3, 4, 5, 6] rfl ?_
          refine aw_iinc (i := 6) (q := 6) (x := z) (lv' := [(0, .ref 58), (1, iI a), (2, iI b), (3, iI c), (4, iI d), (5, iI e), (6, iI (z + 1))]) [1, 2, 3, 4, 5, 6, 0] dX7_appendBytes_115 rfl (by decide) rfl ?_
          refine aw_goto (tgt := 24) dX7_appendBytes_118 (by decide) ?_
          exact ih _ (z + 1) (mx5_step hI (by omega) (by rw [← hq9, show apV a b c d e z = b by (unfold apV; (repeat' split) <;> first | rfl | omega)]; rfl)) (by omega) (by omega)
      · refine aw_iload_n (i := 1) (q := 1) dX7_appendBytes_37 rfl rfl ?_
        refine aw_goto (tgt := 77) dX7_appendBytes_38 (by decide) ?_
        refine aw_istore (i := 7) (lv' := [(0, .ref 58), (1, iI a), (2, iI b), (3, iI c), (4, iI d), (5, iI e), (6, iI z), (7, iI a)]) [1, 2, 3, 4, 5, 6, 7, 0] dX7_appendBytes_77 (by decide) rfl ?_
        refine aw_aload_n (i := 0) (q := 0) dX7_appendBytes_79 rfl rfl ?_
        refine aw_getR (r := 71) flX7_51 SH_58 (by decide) rfl (rk_58_19 hR) dX7_appendBytes_80 ?_
        refine aw_aload_n (i := 0) (q := 0) dX7_appendBytes_83 rfl rfl ?_
        refine aw_getIk (x := m 58 23) 23 flX7_197 SH_58 (by decide) rfl rfl rfl dX7_appendBytes_84 (fun r84 => ?_)
        refine aw_iload (i := 7) (q := 7) dX7_appendBytes_87 rfl ?_
        refine aw_bipush (x := 24) dX7_appendBytes_89 rfl ?_
        refine aw_bipush (x := 8) dX7_appendBytes_91 rfl ?_
        refine aw_iload (i := 6) (q := 6) dX7_appendBytes_93 rfl ?_
        refine aw_iconst dX7_appendBytes_95 ?_
        refine aw_irem dX7_appendBytes_96 (by first | assumption | omega) (by decide) (by omega) (by omega) ?_
        refine aw_imul dX7_appendBytes_97 ?_
        refine aw_isub dX7_appendBytes_98 ?_
        refine aw_ishr (z := (Int32.ofInt a >>> (Int32.ofInt (24 - (8 * (z - z.tdiv 4 * 4))) &&& 31)).toInt) dX7_appendBytes_99 (Int32.ofInt_toInt _).symm ?_
        refine aw_sipush (x := 255) dX7_appendBytes_100 rfl ?_
        refine aw_iand (z := (Int32.ofInt ((Int32.ofInt a >>> (Int32.ofInt (24 - (8 * (z - z.tdiv 4 * 4))) &&& 31)).toInt) &&& Int32.ofInt 255).toInt) dX7_appendBytes_103 (Int32.ofInt_toInt _).symm ?_
        have hb9 := i32_rng (Int32.ofInt (Int32.ofInt a >>> (Int32.ofInt (24 - 8 * (z - z.tdiv 4 * 4)) &&& 31)).toInt &&& Int32.ofInt 255)
        refine aw_iast SH_71 (by decide) ⟨by omega, by omega⟩ (by first | assumption | omega) dX7_appendBytes_104 ?_
        refine aw_aload_n (i := 0) (q := 0) dX7_appendBytes_105 rfl rfl ?_
        refine aw_dup dX7_appendBytes_106 rfl ?_
        refine aw_getIk (x := m 58 23) 23 flX7_197 SH_58 (by decide) rfl rfl (by (rw [aup_a (by decide)]) <;> rfl) dX7_appendBytes_107 (fun r107 => ?_)
        refine aw_iconst dX7_appendBytes_110 ?_
        refine aw_iadd dX7_appendBytes_111 ?_
        refine aw_putIk 23 flX7_197 SH_58 (by decide) rfl rfl rfl (by first | assumption | omega) dX7_appendBytes_112 ?_
        refine aw_sub (lv' := [(0, .ref 58), (1, iI a), (2, iI b), (3, iI c), (4, iI d), (5, iI e), (6, iI z)]) [0, 1, 2, 3, 4, 5, 6] rfl ?_
        refine aw_iinc (i := 6) (q := 6) (x := z) (lv' := [(0, .ref 58), (1, iI a), (2, iI b), (3, iI c), (4, iI d), (5, iI e), (6, iI (z + 1))]) [1, 2, 3, 4, 5, 6, 0] dX7_appendBytes_115 rfl (by decide) rfl ?_
        refine aw_goto (tgt := 24) dX7_appendBytes_118 (by decide) ?_
        exact ih _ (z + 1) (mx5_step hI (by omega) (by rw [← hq9, show apV a b c d e z = a by (unfold apV; (repeat' split) <;> first | rfl | omega)]; rfl)) (by omega) (by omega)
theorem t_appendBytes {mr : aR} (hR : Rok mr) {mi : aM} {a b c d e : Int} (h_a : -2147483648 ≤ a ∧ a ≤ 2147483647) (h_b : -2147483648 ≤ b ∧ b ≤ 2147483647) (h_c : -2147483648 ≤ c ∧ c ≤ 2147483647) (h_d : -2147483648 ≤ d ∧ d ≤ 2147483647) (h_e : -2147483648 ≤ e ∧ e ≤ 2147483647) (h1 : 0 ≤ mi 58 23 ∧ mi 58 23 ≤ 300) : AWm RX7 cX7_appendBytes 8 2 (Pi mr (fun r m => (280 < mi 58 23 ∧ r = -4 ∧ m = mi) ∨ (mi 58 23 ≤ 280 ∧ r = mi 58 23 + 20 ∧ mx5 mi m a b c d e 20))) 5 [(0, .ref 58), (1, iI a), (2, iI b), (3, iI c), (4, iI d), (5, iI e)] [] mi mr := by
  refine aw_aload_n (i := 0) (q := 0) dX7_appendBytes_5 rfl rfl ?_
  refine aw_getIk (x := mi 58 23) 23 flX7_197 SH_58 (by decide) rfl rfl rfl dX7_appendBytes_6 (fun r6 => ?_)
  refine aw_bipush (x := 20) dX7_appendBytes_9 rfl ?_
  refine aw_iadd dX7_appendBytes_11 ?_
  refine aw_sipush (x := 300) dX7_appendBytes_12 rfl ?_
  refine aw_icmp_le (tgt := 21) dX7_appendBytes_15 (by decide) (by first | assumption | omega) (by decide) (fun c15 => ?_) (fun c15 => ?_)
  · refine aw_iconst dX7_appendBytes_21 ?_
    refine aw_istore (i := 6) (lv' := [(0, .ref 58), (1, iI a), (2, iI b), (3, iI c), (4, iI d), (5, iI e), (6, iI 0)]) [1, 2, 3, 4, 5, 6, 0] dX7_appendBytes_22 (by decide) rfl ?_
    exact l_mapp hR h_a h_b h_c h_d h_e (by omega) 21 mi 0 ⟨by omega, fun j j0 j1 => by omega, fun _ _ _ _ => rfl⟩ (by omega) (by omega)
  · refine aw_bipush (x := -4) dX7_appendBytes_18 rfl ?_
    exact aw_iret ⟨_, rfl, rfl, rfl, Or.inl ⟨by omega, rfl, rfl⟩⟩ (Nat.le_refl _) (Nat.le_refl _) dX7_appendBytes_20
theorem s_X7_appendBytes {mr : aR} (hR : Rok mr) {mi : aM} {a b c d e : Int} (h_a : -2147483648 ≤ a ∧ a ≤ 2147483647) (h_b : -2147483648 ≤ b ∧ b ≤ 2147483647) (h_c : -2147483648 ≤ c ∧ c ≤ 2147483647) (h_d : -2147483648 ≤ d ∧ d ≤ 2147483647) (h_e : -2147483648 ≤ e ∧ e ≤ 2147483647) (h1 : 0 ≤ (aup mi 58 0 0) 58 23 ∧ (aup mi 58 0 0) 58 23 ≤ 300) : SPg yX7_appendBytes cX7_appendBytes 8 (some .int) 2 [.ref 58, iI a, iI b, iI c, iI d, iI e] mi mr (Pi mr (fun r m => (280 < (aup mi 58 0 0) 58 23 ∧ r = -4 ∧ m = (aup mi 58 0 0)) ∨ ((aup mi 58 0 0) 58 23 ≤ 280 ∧ r = (aup mi 58 0 0) 58 23 + 20 ∧ mx5 (aup mi 58 0 0) m a b c d e 20))) := by
  refine SPg.int rfl (by decide +kernel) (Nat.le_of_ble_eq_true rfl) ?_
  show AWm RX7 cX7_appendBytes 8 2 _ 0 [(0, .ref 58), (1, iI a), (2, iI b), (3, iI c), (4, iI d), (5, iI e)] [] mi mr
  refine aw_aload_n (i := 0) (q := 0) dX7_appendBytes_0 rfl rfl ?_
  refine aw_iconst dX7_appendBytes_1 ?_
  refine aw_putIk 0 flX7_1 SH_58 (by decide) rfl rfl rfl (by decide) dX7_appendBytes_2 ?_
  exact t_appendBytes (mi := aup mi 58 0 0) hR h_a h_b h_c h_d h_e h1
