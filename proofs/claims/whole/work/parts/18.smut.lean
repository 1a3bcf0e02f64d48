-- part 18: bits; the schedule changed (printed by wip/whole/gen/p18.py)
theorem oI_nat {x : Int} (h : 0 ≤ x) : Int32.ofInt x = Int32.ofNat x.toNat := by
  rw [← Int32.ofInt_eq_ofNat, Int.toNat_of_nonneg h]
theorem bt_and {x y : Int} (hx : 0 ≤ x ∧ x ≤ 2147483647) (hy : 0 ≤ y ∧ y ≤ 2147483647) : Int32.ofInt x &&& Int32.ofInt y = Int32.ofInt ((x.toNat &&& y.toNat : Nat) : Int) := by
  rw [oI_nat hx.1, oI_nat hy.1, Int32.ofInt_eq_ofNat]
  apply Int32.toBitVec_inj.mp
  show BitVec.ofNat 32 x.toNat &&& BitVec.ofNat 32 y.toNat = BitVec.ofNat 32 (x.toNat &&& y.toNat)
  rw [BitVec.ofNat_and]
theorem bt_or {x y : Int} (hx : 0 ≤ x ∧ x ≤ 2147483647) (hy : 0 ≤ y ∧ y ≤ 2147483647) : Int32.ofInt x ||| Int32.ofInt y = Int32.ofInt ((x.toNat ||| y.toNat : Nat) : Int) := by
  rw [oI_nat hx.1, oI_nat hy.1, Int32.ofInt_eq_ofNat]
  apply Int32.toBitVec_inj.mp
  show BitVec.ofNat 32 x.toNat ||| BitVec.ofNat 32 y.toNat = BitVec.ofNat 32 (x.toNat ||| y.toNat)
  rw [BitVec.ofNat_or]
theorem bt_s31 : ∀ b : Nat, b < 31 → ((Int32.ofInt (b : Int) &&& 31).toBitVec.smod 32).toNat = b := by decide +kernel
theorem bt_s1 : ∀ b : Nat, b < 31 → Int32.ofInt 1 <<< (Int32.ofInt (b : Int) &&& 31) = Int32.ofInt ((2 ^ b : Nat) : Int) := by decide +kernel
theorem bt_shl {y : Int} (hy : 0 ≤ y ∧ y < 31) : Int32.ofInt 1 <<< (Int32.ofInt y &&& 31) = Int32.ofInt ((2 ^ y.toNat : Nat) : Int) := by
  have h := bt_s1 y.toNat (by omega)
  rw [Int.toNat_of_nonneg hy.1] at h
  exact h
theorem bt_shr {x y : Int} (hx : 0 ≤ x ∧ x ≤ 2147483647) (hy : 0 ≤ y ∧ y < 31) : Int32.ofInt x >>> (Int32.ofInt y &&& 31) = Int32.ofInt ((x.toNat / 2 ^ y.toNat : Nat) : Int) := by
  have h := bt_s31 y.toNat (by omega)
  rw [Int.toNat_of_nonneg hy.1] at h
  rw [oI_nat hx.1, Int32.ofInt_eq_ofNat]
  exact pk_shrN (by omega) _ y.toNat h
theorem shr_rng {x : Int} {n : Nat} (hx : 0 ≤ x ∧ x ≤ 2147483647) : 0 ≤ ((x.toNat / n : Nat) : Int) ∧ ((x.toNat / n : Nat) : Int) ≤ 2147483647 := by
  have h : x.toNat / n ≤ x.toNat := Nat.div_le_self _ _
  generalize x.toNat / n = q at *
  omega
/-- the bit b of s -/
def bit (s b : Int) : Prop := s.toNat.testBit b.toNat = true
theorem bt_one (n b : Nat) : ((n / 2 ^ b) &&& 1) = if n.testBit b then 1 else 0 := by
  rw [Nat.and_one_is_mod, Nat.testBit_eq_decide_div_mod_eq]
  have := Nat.mod_two_eq_zero_or_one (n / 2 ^ b)
  rcases this with h | h <;> simp [h]
theorem bit_one {s b : Int} : (bit s b ∧ (((s.toNat / 2 ^ b.toNat) &&& 1 : Nat) : Int) = 1) ∨ (¬ bit s b ∧ (((s.toNat / 2 ^ b.toNat) &&& 1 : Nat) : Int) = 0) := by
  unfold bit
  rw [bt_one]
  by_cases h : s.toNat.testBit b.toNat = true
  · left; simp [h]
  · right; simp [h]
theorem bit_w (s b : Int) : ∃ w : Int, w = (((s.toNat / 2 ^ b.toNat) &&& 1 : Nat) : Int) ∧ ((bit s b ∧ w = 1) ∨ (¬ bit s b ∧ w = 0)) := ⟨_, rfl, bit_one⟩
theorem or_rng {x y : Int} (hx : 0 ≤ x ∧ x < 4096) (hy : 0 ≤ y ∧ y < 4096) : 0 ≤ ((x.toNat ||| y.toNat : Nat) : Int) ∧ ((x.toNat ||| y.toNat : Nat) : Int) < 4096 := by
  have h : x.toNat ||| y.toNat < 2 ^ 12 := Nat.or_lt_two_pow (by omega) (by omega)
  omega
theorem and_rng {x y : Int} (hx : 0 ≤ x ∧ x < 4096) : 0 ≤ ((x.toNat &&& y.toNat : Nat) : Int) ∧ ((x.toNat &&& y.toNat : Nat) : Int) < 4096 := by
  have h : x.toNat &&& y.toNat ≤ x.toNat := Nat.and_le_left
  omega
theorem pow_rng {b : Int} (hb : 0 ≤ b ∧ b < 12) : 0 ≤ ((2 ^ b.toNat : Nat) : Int) ∧ ((2 ^ b.toNat : Nat) : Int) < 4096 := by
  have h : 2 ^ b.toNat < 2 ^ 12 := Nat.pow_lt_pow_right (by omega) (by omega)
  rw [show (2 : Nat) ^ 12 = 4096 from rfl] at h
  generalize 2 ^ b.toNat = q at *
  omega
theorem bit_or {x y b : Int} : bit ((x.toNat ||| y.toNat : Nat) : Int) b ↔ bit x b ∨ bit y b := by
  unfold bit
  rw [Int.toNat_natCast, Nat.testBit_or, Bool.or_eq_true]
theorem bit_and {x y b : Int} : bit ((x.toNat &&& y.toNat : Nat) : Int) b ↔ bit x b ∧ bit y b := by
  unfold bit
  rw [Int.toNat_natCast, Nat.testBit_and, Bool.and_eq_true]
theorem bit_pow {b c : Int} (hb : 0 ≤ b) (hc : 0 ≤ c) : bit ((2 ^ b.toNat : Nat) : Int) c ↔ c = b := by
  unfold bit
  rw [Int.toNat_natCast, Nat.testBit_two_pow, decide_eq_true_eq]
  constructor <;> intro h <;> omega
theorem bit_0 {b : Int} : ¬ bit 0 b := by unfold bit; simp
theorem acp_in {mi : aM} {a0 a : Nat} {sp dp w j : Int} (h : dp ≤ j) (h2 : j < dp + w) : acp mi a0 sp a dp w a j = mi a0 (sp + (j - dp)) := by unfold acp; rw [if_pos ⟨rfl, h, h2⟩]
theorem acp_a {mi : aM} {a0 a x : Nat} {sp dp w j : Int} (h : x ≠ a) : acp mi a0 sp a dp w x j = mi x j := by simp [acp, h]
/-- a stroke (b, c, t) is in at the place k -/
def insP (mi m : aM) (a : Nat) (k b c t : Int) : Prop :=
  m a 4 = mi a 4 + 1 ∧ (∀ i : Int, 0 ≤ i → i < k → sF m a i = sF mi a i) ∧ sF m a k = (b, c, t) ∧ (∀ i : Int, k ≤ i → i < mi a 4 → sF m a (i + 1) = sF mi a i) ∧ ∀ (x : Nat) (j : Int), (x ≠ a ∨ j ≠ 4) → x ≠ a + 1 → x ≠ a + 2 → x ≠ a + 3 → m x j = mi x j
def remP (mi m : aM) (a : Nat) (k : Int) : Prop :=
  m a 4 = mi a 4 - 1 ∧ (∀ i : Int, 0 ≤ i → i < k → sF m a i = sF mi a i) ∧ (∀ i : Int, k ≤ i → i < mi a 4 - 1 → sF m a i = sF mi a (i + 1)) ∧ ∀ (x : Nat) (j : Int), (x ≠ a ∨ j ≠ 4) → x ≠ a + 1 → x ≠ a + 2 → x ≠ a + 3 → m x j = mi x j
theorem sF_eq {mi m : aM} {a : Nat} {i j : Int} (h : sF m a i = sF mi a j) : m (a + 1) i = mi (a + 1) j ∧ m (a + 2) i = mi (a + 2) j ∧ m (a + 3) i = mi (a + 3) j := by
  unfold sF at h
  simp only [Prod.mk.injEq] at h
  exact h
theorem insP_perm {mi m : aM} {a : Nat} {k b c t : Int} (h : insP mi m a k b c t) (hk : 0 ≤ k ∧ k ≤ mi a 4) : (sL m a).Perm ((b, c, t) :: sL mi a) := by
  obtain ⟨h1, h2, h3, h4, -⟩ := h
  unfold sL
  rw [h1, show (mi a 4 + 1).toNat = (mi a 4).toNat + 1 by omega, ← h3]
  have e := lst_ins (f := sF m a) (g := sF mi a) (n := (mi a 4).toNat) (k := k.toNat) (by omega) (fun i x y => h2 i x (by omega)) (fun i x y => h4 i (by omega) (by omega))
  rw [show ((k.toNat : Nat) : Int) = k by omega] at e
  exact e
theorem insP_ok {mi m : aM} {a : Nat} {k b c t : Int} (h : insP mi m a k b c t) (ho : sOk mi a) (hn : mi a 4 < 300) (hk : 0 ≤ k ∧ k ≤ mi a 4) (hb : 0 ≤ b ∧ b < 12) (hc : -1000 ≤ c ∧ c ≤ 200000) (ht : c < t ∧ t ≤ c + 50)
    (hlo : ∀ i : Int, 0 ≤ i → i < k → mi (a + 2) i < c ∨ (mi (a + 2) i = c ∧ mi (a + 1) i < b)) (hhi : ∀ i : Int, k ≤ i → i < mi a 4 → c < mi (a + 2) i ∨ (c = mi (a + 2) i ∧ b < mi (a + 1) i)) : sOk m a := by
  obtain ⟨h1, h2, h3, h4, -⟩ := h
  obtain ⟨o1, o2, o3⟩ := ho
  have v1 : ∀ i : Int, 0 ≤ i → i < k → m (a + 1) i = mi (a + 1) i ∧ m (a + 2) i = mi (a + 2) i ∧ m (a + 3) i = mi (a + 3) i := fun i x y => sF_eq (h2 i x y)
  have v2 : m (a + 1) k = b ∧ m (a + 2) k = c ∧ m (a + 3) k = t := by
    unfold sF at h3
    simp only [Prod.mk.injEq] at h3
    exact h3
  have v3 : ∀ i : Int, k < i → i < mi a 4 + 1 → m (a + 1) i = mi (a + 1) (i - 1) ∧ m (a + 2) i = mi (a + 2) (i - 1) ∧ m (a + 3) i = mi (a + 3) (i - 1) := fun i x y => by
    have := sF_eq (h4 (i - 1) (by omega) (by omega))
    rw [show i - 1 + 1 = i by omega] at this
    exact this
  unfold sOk
  rw [h1]
  refine ⟨by omega, fun i x y => ?_, fun i j x y z => ?_⟩
  · by_cases e1 : i < k
    · have := v1 i x e1; have := o2 i x (by omega); omega
    · by_cases e2 : i = k
      · subst e2; omega
      · have := v3 i (by omega) y; have := o2 (i - 1) (by omega) (by omega); omega
  · by_cases e1 : i < k
    · have w1 := v1 i x e1
      by_cases f1 : j < k
      · have := v1 j (by omega) f1; have := o3 i j x y (by omega); omega
      · have l1 := hlo i x e1
        by_cases f2 : j = k
        · subst f2; omega
        · have := v3 j (by omega) (by omega); have := hhi (j - 1) (by omega) (by omega); omega
    · by_cases e2 : i = k
      · subst e2
        have := v3 j (by omega) (by omega); have := hhi (j - 1) (by omega) (by omega); omega
      · have := v3 i (by omega) (by omega); have := v3 j (by omega) (by omega); have := o3 (i - 1) (j - 1) (by omega) (by omega) (by omega); omega
theorem remP_perm {mi m : aM} {a : Nat} {k : Int} (h : remP mi m a k) (hk : 0 ≤ k ∧ k < mi a 4) : (sL mi a).Perm (sF mi a k :: sL m a) := by
  obtain ⟨h1, h2, h3, -⟩ := h
  unfold sL
  rw [h1, show (mi a 4).toNat = (mi a 4 - 1).toNat + 1 by omega]
  have e := lst_ins (f := sF mi a) (g := sF m a) (n := (mi a 4 - 1).toNat) (k := k.toNat) (by omega) (fun i x y => (h2 i x (by omega)).symm) (fun i x y => (h3 i (by omega) (by omega)).symm)
  rw [show ((k.toNat : Nat) : Int) = k by omega] at e
  exact e
theorem remP_ok {mi m : aM} {a : Nat} {k : Int} (h : remP mi m a k) (ho : sOk mi a) (hk : 0 ≤ k ∧ k < mi a 4) : sOk m a := by
  obtain ⟨h1, h2, h3, -⟩ := h
  obtain ⟨o1, o2, o3⟩ := ho
  have v1 : ∀ i : Int, 0 ≤ i → i < k → m (a + 1) i = mi (a + 1) i ∧ m (a + 2) i = mi (a + 2) i ∧ m (a + 3) i = mi (a + 3) i := fun i x y => sF_eq (h2 i x y)
  have v3 : ∀ i : Int, k ≤ i → i < mi a 4 - 1 → m (a + 1) i = mi (a + 1) (i + 1) ∧ m (a + 2) i = mi (a + 2) (i + 1) ∧ m (a + 3) i = mi (a + 3) (i + 1) := fun i x y => sF_eq (h3 i x y)
  unfold sOk
  rw [h1]
  refine ⟨by omega, fun i x y => ?_, fun i j x y z => ?_⟩
  · by_cases e1 : i < k
    · have := v1 i x e1; have := o2 i x (by omega); omega
    · have := v3 i (by omega) y; have := o2 (i + 1) (by omega) (by omega); omega
  · by_cases e1 : i < k
    · have w1 := v1 i x e1
      by_cases f1 : j < k
      · have := v1 j (by omega) f1; have := o3 i j x y (by omega); omega
      · have := v3 j (by omega) (by omega); have := o3 i (j + 1) x (by omega) (by omega); omega
    · have := v3 i (by omega) (by omega); have := v3 j (by omega) (by omega); have := o3 (i + 1) (j + 1) (by omega) (by omega) (by omega); omega
theorem s_X4_removeAt {mr : aR} (hR : Rok mr) {mi : aM} {a : Nat} (hs : isS a) (ho : sOk mi a) {k : Int} (hk : 0 ≤ k ∧ k < mi a 4) : SPg yX4_removeAt cX4_removeAt 2 none 2 [.ref a, iI k] mi mr (Pv mr (fun m => remP mi m a k)) := by
  refine SPg.void rfl (by decide +kernel) (Nat.le_of_ble_eq_true rfl) ?_
  show AWm RX4 cX4_removeAt 2 2 _ 0 [(0, .ref a), (1, iI k)] [] mi mr
  have hc1 := ho.1
  have h_k : -2147483648 ≤ k ∧ k ≤ 2147483647 := by omega
  refine aw_iload_n (i := 1) (q := 1) dX4_removeAt_0 rfl rfl ?_
  refine aw_if_lt (tgt := 12) dX4_removeAt_1 (by decide) (by first | assumption | omega) (fun c1 => ?_) (fun c1 => ?_)
  · exact aw_vret ⟨rfl, rfl, rfl, (by omega)⟩ (Nat.le_refl _) (Nat.le_refl _) dX4_removeAt_12
  · refine aw_iload_n (i := 1) (q := 1) dX4_removeAt_4 rfl rfl ?_
    refine aw_aload_n (i := 0) (q := 0) dX4_removeAt_5 rfl rfl ?_
    refine aw_getIk (x := mi a 4) 4 flX4_24 (isS_SH hs).1 (isS_ok hs).1 rfl rfl rfl dX4_removeAt_6 (fun r6 => ?_)
    refine aw_icmp_lt (tgt := 13) dX4_removeAt_9 (by decide) (by first | assumption | omega) (by first | assumption | omega) (fun c9 => ?_) (fun c9 => ?_)
    · refine aw_aload_n (i := 0) (q := 0) dX4_removeAt_13 rfl rfl ?_
      refine aw_dup dX4_removeAt_14 rfl ?_
      refine aw_getIk (x := mi a 4) 4 flX4_24 (isS_SH hs).1 (isS_ok hs).1 rfl rfl rfl dX4_removeAt_15 (fun r15 => ?_)
      refine aw_iconst dX4_removeAt_18 ?_
      refine aw_isub dX4_removeAt_19 ?_
      refine aw_putIk 4 flX4_24 (isS_SH hs).1 (isS_ok hs).1 rfl rfl rfl (by first | assumption | omega) dX4_removeAt_20 ?_
      refine aw_aload_n (i := 0) (q := 0) dX4_removeAt_23 rfl rfl ?_
      refine aw_getR (r := a + 1) flX4_9 (isS_SH hs).1 (isS_ok hs).1 rfl (isS_rf hs hR).1 dX4_removeAt_24 ?_
      refine aw_iload_n (i := 1) (q := 1) dX4_removeAt_27 rfl rfl ?_
      refine aw_iconst dX4_removeAt_28 ?_
      refine aw_iadd dX4_removeAt_29 ?_
      refine aw_aload_n (i := 0) (q := 0) dX4_removeAt_30 rfl rfl ?_
      refine aw_getR (r := a + 1) flX4_9 (isS_SH hs).1 (isS_ok hs).1 rfl (isS_rf hs hR).1 dX4_removeAt_31 ?_
      refine aw_iload_n (i := 1) (q := 1) dX4_removeAt_34 rfl rfl ?_
      refine aw_aload_n (i := 0) (q := 0) dX4_removeAt_35 rfl rfl ?_
      refine aw_getIk (x := (mi a 4) - 1) 4 flX4_24 (isS_SH hs).1 (isS_ok hs).1 rfl rfl (by (rw [aup_eq]) <;> rfl) dX4_removeAt_36 (fun r36 => ?_)
      refine aw_iload_n (i := 1) (q := 1) dX4_removeAt_39 rfl rfl ?_
      refine aw_isub dX4_removeAt_40 ?_
      refine aw_copy (st := []) acX4_28 (isS_SH hs).2.1 (isS_ok hs).2.1 (isS_SH hs).2.1 (isS_ok hs).2.1 (by omega) (by omega) (by omega) (by omega) (by omega) (Nat.le_of_ble_eq_true rfl) (by decide) dX4_removeAt_41 ?_
      refine aw_aload_n (i := 0) (q := 0) dX4_removeAt_44 rfl rfl ?_
      refine aw_getR (r := a + 2) flX4_15 (isS_SH hs).1 (isS_ok hs).1 rfl (isS_rf hs hR).2.1 dX4_removeAt_45 ?_
      refine aw_iload_n (i := 1) (q := 1) dX4_removeAt_48 rfl rfl ?_
      refine aw_iconst dX4_removeAt_49 ?_
      refine aw_iadd dX4_removeAt_50 ?_
      refine aw_aload_n (i := 0) (q := 0) dX4_removeAt_51 rfl rfl ?_
      refine aw_getR (r := a + 2) flX4_15 (isS_SH hs).1 (isS_ok hs).1 rfl (isS_rf hs hR).2.1 dX4_removeAt_52 ?_
      refine aw_iload_n (i := 1) (q := 1) dX4_removeAt_55 rfl rfl ?_
      refine aw_aload_n (i := 0) (q := 0) dX4_removeAt_56 rfl rfl ?_
      refine aw_getIk (x := (mi a 4) - 1) 4 flX4_24 (isS_SH hs).1 (isS_ok hs).1 rfl rfl (by (rw [acp_a (by omega), aup_eq]) <;> rfl) dX4_removeAt_57 (fun r57 => ?_)
      refine aw_iload_n (i := 1) (q := 1) dX4_removeAt_60 rfl rfl ?_
      refine aw_isub dX4_removeAt_61 ?_
      refine aw_copy (st := []) acX4_28 (isS_SH hs).2.2.1 (isS_ok hs).2.2.1 (isS_SH hs).2.2.1 (isS_ok hs).2.2.1 (by omega) (by omega) (by omega) (by omega) (by omega) (Nat.le_of_ble_eq_true rfl) (by decide) dX4_removeAt_62 ?_
      refine aw_aload_n (i := 0) (q := 0) dX4_removeAt_65 rfl rfl ?_
      refine aw_getR (r := a + 3) flX4_18 (isS_SH hs).1 (isS_ok hs).1 rfl (isS_rf hs hR).2.2.1 dX4_removeAt_66 ?_
      refine aw_iload_n (i := 1) (q := 1) dX4_removeAt_69 rfl rfl ?_
      refine aw_iconst dX4_removeAt_70 ?_
      refine aw_iadd dX4_removeAt_71 ?_
      refine aw_aload_n (i := 0) (q := 0) dX4_removeAt_72 rfl rfl ?_
      refine aw_getR (r := a + 3) flX4_18 (isS_SH hs).1 (isS_ok hs).1 rfl (isS_rf hs hR).2.2.1 dX4_removeAt_73 ?_
      refine aw_iload_n (i := 1) (q := 1) dX4_removeAt_76 rfl rfl ?_
      refine aw_aload_n (i := 0) (q := 0) dX4_removeAt_77 rfl rfl ?_
      refine aw_getIk (x := (mi a 4) - 1) 4 flX4_24 (isS_SH hs).1 (isS_ok hs).1 rfl rfl (by (rw [acp_a (by omega), acp_a (by omega), aup_eq]) <;> rfl) dX4_removeAt_78 (fun r78 => ?_)
      refine aw_iload_n (i := 1) (q := 1) dX4_removeAt_81 rfl rfl ?_
      refine aw_isub dX4_removeAt_82 ?_
      refine aw_copy (st := []) acX4_28 (isS_SH hs).2.2.2.1 (isS_ok hs).2.2.2.1 (isS_SH hs).2.2.2.1 (isS_ok hs).2.2.2.1 (by omega) (by omega) (by omega) (by omega) (by omega) (Nat.le_of_ble_eq_true rfl) (by decide) dX4_removeAt_83 ?_
      exact aw_vret ⟨rfl, rfl, rfl, (by
      refine ⟨?_, fun i x y => ?_, fun i x y => ?_, fun x j hx h1 h2 h3 => ?_⟩
      · unfold aup acp; repeat (first | rw [if_pos (by omega)] | rw [if_neg (by omega)] | dsimp only)
      · unfold sF aup acp; repeat (first | rw [if_pos (by omega)] | rw [if_neg (by omega)] | dsimp only)
      · unfold sF aup acp; repeat (first | rw [if_pos (by omega)] | rw [if_neg (by omega)] | dsimp only)
        refine Prod.ext ?_ (Prod.ext ?_ ?_) <;> (dsimp only; congr 1; omega)
      · unfold aup acp; repeat (first | rw [if_pos (by omega)] | rw [if_neg (by omega)] | dsimp only))⟩ (Nat.le_refl _) (Nat.le_refl _) dX4_removeAt_86
    · exact aw_vret ⟨rfl, rfl, rfl, (by omega)⟩ (Nat.le_refl _) (Nat.le_refl _) dX4_removeAt_12
theorem l_insert {mr : aR} (hR : Rok mr) {mi : aM} {a : Nat} (hs : isS a) (ho : sOk mi a) {b c t : Int} (hn : mi a 4 < 300) (hb : 0 ≤ b ∧ b < 12) (hc : -1000 ≤ c ∧ c ≤ 200000) (ht : c < t ∧ t ≤ c + 50) (hnew : ∀ i : Int, 0 ≤ i → i < mi a 4 → ¬ (mi (a + 2) i = c ∧ mi (a + 1) i = b)) : ∀ (n : Nat) (z : Int), (0 ≤ z ∧ z ≤ mi a 4) → (∀ i : Int, 0 ≤ i → i < z → mi (a + 2) i < c ∨ (mi (a + 2) i = c ∧ mi (a + 1) i < b)) → (∀ i : Int, z ≤ i → i < mi a 4 → c ≤ mi (a + 2) i) → mi a 4 - z < n → AWm RX4 cX4_insert 5 2 (Pv mr (fun m => (sL m a).Perm ((b, c, t) :: sL mi a) ∧ sOk m a ∧ m a 4 = mi a 4 + 1 ∧ ∀ (x : Nat) (j : Int), (x ≠ a ∨ j ≠ 4) → x ≠ a + 1 → x ≠ a + 2 → x ≠ a + 3 → m x j = mi x j)) 15 [(0, .ref a), (1, iI b), (2, iI c), (3, iI t), (4, iI z)] [] mi mr := by
  intro n
  induction n with
  | zero => intro z h1 hlo hge h4; omega
  | succ n ih =>
    intro z h1 hlo hge h4
    have hc1 := ho.1
    have hhi9 : (z = mi a 4 ∨ mi (a + 2) z ≠ c ∨ b ≤ mi (a + 1) z) → ∀ i : Int, z ≤ i → i < mi a 4 → c < mi (a + 2) i ∨ (c = mi (a + 2) i ∧ b < mi (a + 1) i) := fun q i x y => by
      have e1 := hge i x y
      have e2 := hnew i (by omega) y
      by_cases e3 : i = z
      · subst e3; omega
      · have := ho.2.2 z i (by omega) (by omega) y
        have := hge z (by omega) (by omega)
        have := hnew z (by omega) (by omega)
        omega
    refine aw_iload (i := 4) (q := 4) dX4_insert_15 rfl ?_
    refine aw_aload_n (i := 0) (q := 0) dX4_insert_17 rfl rfl ?_
    refine aw_getIk (x := mi a 4) 4 flX4_24 (isS_SH hs).1 (isS_ok hs).1 rfl rfl rfl dX4_insert_18 (fun r18 => ?_)
    refine aw_icmp_ge (tgt := 52) dX4_insert_21 (by decide) (by first | assumption | omega) (by first | assumption | omega) (fun c21 => ?_) (fun c21 => ?_)
    · refine aw_aload_n (i := 0) (q := 0) dX4_insert_52 rfl rfl ?_
      refine aw_getR (r := a + 1) flX4_9 (isS_SH hs).1 (isS_ok hs).1 rfl (isS_rf hs hR).1 dX4_insert_53 ?_
      refine aw_iload (i := 4) (q := 4) dX4_insert_56 rfl ?_
      refine aw_aload_n (i := 0) (q := 0) dX4_insert_58 rfl rfl ?_
      refine aw_getR (r := a + 1) flX4_9 (isS_SH hs).1 (isS_ok hs).1 rfl (isS_rf hs hR).1 dX4_insert_59 ?_
      refine aw_iload (i := 4) (q := 4) dX4_insert_62 rfl ?_
      refine aw_iconst dX4_insert_64 ?_
      refine aw_iadd dX4_insert_65 ?_
      refine aw_aload_n (i := 0) (q := 0) dX4_insert_66 rfl rfl ?_
      refine aw_getIk (x := mi a 4) 4 flX4_24 (isS_SH hs).1 (isS_ok hs).1 rfl rfl rfl dX4_insert_67 (fun r67 => ?_)
      refine aw_iload (i := 4) (q := 4) dX4_insert_70 rfl ?_
      refine aw_isub dX4_insert_72 ?_
      refine aw_copy (st := []) acX4_28 (isS_SH hs).2.1 (isS_ok hs).2.1 (isS_SH hs).2.1 (isS_ok hs).2.1 (by omega) (by omega) (by omega) (by omega) (by omega) (Nat.le_of_ble_eq_true rfl) (by decide) dX4_insert_73 ?_
      refine aw_aload_n (i := 0) (q := 0) dX4_insert_76 rfl rfl ?_
      refine aw_getR (r := a + 2) flX4_15 (isS_SH hs).1 (isS_ok hs).1 rfl (isS_rf hs hR).2.1 dX4_insert_77 ?_
      refine aw_iload (i := 4) (q := 4) dX4_insert_80 rfl ?_
      refine aw_aload_n (i := 0) (q := 0) dX4_insert_82 rfl rfl ?_
      refine aw_getR (r := a + 2) flX4_15 (isS_SH hs).1 (isS_ok hs).1 rfl (isS_rf hs hR).2.1 dX4_insert_83 ?_
      refine aw_iload (i := 4) (q := 4) dX4_insert_86 rfl ?_
      refine aw_iconst dX4_insert_88 ?_
      refine aw_iadd dX4_insert_89 ?_
      refine aw_aload_n (i := 0) (q := 0) dX4_insert_90 rfl rfl ?_
      refine aw_getIk (x := mi a 4) 4 flX4_24 (isS_SH hs).1 (isS_ok hs).1 rfl rfl (by (rw [acp_a (by omega)]) <;> rfl) dX4_insert_91 (fun r91 => ?_)
      refine aw_iload (i := 4) (q := 4) dX4_insert_94 rfl ?_
      refine aw_isub dX4_insert_96 ?_
      refine aw_copy (st := []) acX4_28 (isS_SH hs).2.2.1 (isS_ok hs).2.2.1 (isS_SH hs).2.2.1 (isS_ok hs).2.2.1 (by omega) (by omega) (by omega) (by omega) (by omega) (Nat.le_of_ble_eq_true rfl) (by decide) dX4_insert_97 ?_
      refine aw_aload_n (i := 0) (q := 0) dX4_insert_100 rfl rfl ?_
      refine aw_getR (r := a + 3) flX4_18 (isS_SH hs).1 (isS_ok hs).1 rfl (isS_rf hs hR).2.2.1 dX4_insert_101 ?_
      refine aw_iload (i := 4) (q := 4) dX4_insert_104 rfl ?_
      refine aw_aload_n (i := 0) (q := 0) dX4_insert_106 rfl rfl ?_
      refine aw_getR (r := a + 3) flX4_18 (isS_SH hs).1 (isS_ok hs).1 rfl (isS_rf hs hR).2.2.1 dX4_insert_107 ?_
      refine aw_iload (i := 4) (q := 4) dX4_insert_110 rfl ?_
      refine aw_iconst dX4_insert_112 ?_
      refine aw_iadd dX4_insert_113 ?_
      refine aw_aload_n (i := 0) (q := 0) dX4_insert_114 rfl rfl ?_
      refine aw_getIk (x := mi a 4) 4 flX4_24 (isS_SH hs).1 (isS_ok hs).1 rfl rfl (by (rw [acp_a (by omega), acp_a (by omega)]) <;> rfl) dX4_insert_115 (fun r115 => ?_)
      refine aw_iload (i := 4) (q := 4) dX4_insert_118 rfl ?_
      refine aw_isub dX4_insert_120 ?_
      refine aw_copy (st := []) acX4_28 (isS_SH hs).2.2.2.1 (isS_ok hs).2.2.2.1 (isS_SH hs).2.2.2.1 (isS_ok hs).2.2.2.1 (by omega) (by omega) (by omega) (by omega) (by omega) (Nat.le_of_ble_eq_true rfl) (by decide) dX4_insert_121 ?_
      refine aw_aload_n (i := 0) (q := 0) dX4_insert_124 rfl rfl ?_
      refine aw_getR (r := a + 1) flX4_9 (isS_SH hs).1 (isS_ok hs).1 rfl (isS_rf hs hR).1 dX4_insert_125 ?_
      refine aw_iload (i := 4) (q := 4) dX4_insert_128 rfl ?_
      refine aw_iload_n (i := 1) (q := 1) dX4_insert_130 rfl rfl ?_
      refine aw_iast (isS_SH hs).2.1 (isS_ok hs).2.1 ⟨by omega, by omega⟩ (by first | assumption | omega) dX4_insert_131 ?_
      refine aw_aload_n (i := 0) (q := 0) dX4_insert_132 rfl rfl ?_
      refine aw_getR (r := a + 2) flX4_15 (isS_SH hs).1 (isS_ok hs).1 rfl (isS_rf hs hR).2.1 dX4_insert_133 ?_
      refine aw_iload (i := 4) (q := 4) dX4_insert_136 rfl ?_
      refine aw_iload_n (i := 2) (q := 2) dX4_insert_138 rfl rfl ?_
      refine aw_iast (isS_SH hs).2.2.1 (isS_ok hs).2.2.1 ⟨by omega, by omega⟩ (by first | assumption | omega) dX4_insert_139 ?_
      refine aw_aload_n (i := 0) (q := 0) dX4_insert_140 rfl rfl ?_
      refine aw_getR (r := a + 3) flX4_18 (isS_SH hs).1 (isS_ok hs).1 rfl (isS_rf hs hR).2.2.1 dX4_insert_141 ?_
      refine aw_iload (i := 4) (q := 4) dX4_insert_144 rfl ?_
      refine aw_iload_n (i := 3) (q := 3) dX4_insert_146 rfl rfl ?_
      refine aw_iast (isS_SH hs).2.2.2.1 (isS_ok hs).2.2.2.1 ⟨by omega, by omega⟩ (by first | assumption | omega) dX4_insert_147 ?_
      refine aw_aload_n (i := 0) (q := 0) dX4_insert_148 rfl rfl ?_
      refine aw_dup dX4_insert_149 rfl ?_
      refine aw_getIk (x := mi a 4) 4 flX4_24 (isS_SH hs).1 (isS_ok hs).1 rfl rfl (by (rw [aup_a (by omega), aup_a (by omega), aup_a (by omega), acp_a (by omega), acp_a (by omega), acp_a (by omega)]) <;> rfl) dX4_insert_150 (fun r150 => ?_)
      refine aw_iconst dX4_insert_153 ?_
      refine aw_iadd dX4_insert_154 ?_
      refine aw_putIk 4 flX4_24 (isS_SH hs).1 (isS_ok hs).1 rfl rfl rfl (by first | assumption | omega) dX4_insert_155 ?_
      have hP : insP mi (aup (aup (aup (aup (acp (acp (acp mi (a + 1) z (a + 1) (z + 1) ((mi a 4) - z)) (a + 2) z (a + 2) (z + 1) ((mi a 4) - z)) (a + 3) z (a + 3) (z + 1) ((mi a 4) - z)) (a + 1) z b) (a + 2) z c) (a + 3) z t) a 4 ((mi a 4) + 1)) a z b c t := ⟨(by unfold aup acp; repeat (first | rw [if_pos (by omega)] | rw [if_neg (by omega)] | dsimp only)), (fun i x y => by unfold sF aup acp; repeat (first | rw [if_pos (by omega)] | rw [if_neg (by omega)] | dsimp only)), (by unfold sF aup acp; repeat (first | rw [if_pos (by omega)] | rw [if_neg (by omega)] | dsimp only)), (fun i x y => by
      unfold sF aup acp; repeat (first | rw [if_pos (by omega)] | rw [if_neg (by omega)] | dsimp only)
      refine Prod.ext ?_ (Prod.ext ?_ ?_) <;> (dsimp only; congr 1; omega)), (fun x j hx h1 h2 h3 => by unfold aup acp; repeat (first | rw [if_pos (by omega)] | rw [if_neg (by omega)] | dsimp only))⟩
      exact aw_vret ⟨rfl, rfl, rfl, insP_perm hP (by omega), insP_ok hP ho hn (by omega) hb hc ht hlo (hhi9 (by omega)), hP.1, hP.2.2.2.2⟩ (Nat.le_refl _) (Nat.le_refl _) dX4_insert_158
    · refine aw_aload_n (i := 0) (q := 0) dX4_insert_24 rfl rfl ?_
      refine aw_getR (r := a + 2) flX4_15 (isS_SH hs).1 (isS_ok hs).1 rfl (isS_rf hs hR).2.1 dX4_insert_25 ?_
      refine aw_iload (i := 4) (q := 4) dX4_insert_28 rfl ?_
      refine aw_ialdv (x := mi (a + 2) z) (isS_SH hs).2.2.1 (isS_ok hs).2.2.1 ⟨by omega, by omega⟩ rfl dX4_insert_30 (fun r30 => ?_)
      refine aw_iload_n (i := 2) (q := 2) dX4_insert_31 rfl rfl ?_
      refine aw_icmp_ne (tgt := 52) dX4_insert_32 (by decide) (by first | assumption | omega) (by first | assumption | omega) (fun c32 => ?_) (fun c32 => ?_)
      · refine aw_aload_n (i := 0) (q := 0) dX4_insert_52 rfl rfl ?_
        refine aw_getR (r := a + 1) flX4_9 (isS_SH hs).1 (isS_ok hs).1 rfl (isS_rf hs hR).1 dX4_insert_53 ?_
        refine aw_iload (i := 4) (q := 4) dX4_insert_56 rfl ?_
        refine aw_aload_n (i := 0) (q := 0) dX4_insert_58 rfl rfl ?_
        refine aw_getR (r := a + 1) flX4_9 (isS_SH hs).1 (isS_ok hs).1 rfl (isS_rf hs hR).1 dX4_insert_59 ?_
        refine aw_iload (i := 4) (q := 4) dX4_insert_62 rfl ?_
        refine aw_iconst dX4_insert_64 ?_
        refine aw_iadd dX4_insert_65 ?_
        refine aw_aload_n (i := 0) (q := 0) dX4_insert_66 rfl rfl ?_
        refine aw_getIk (x := mi a 4) 4 flX4_24 (isS_SH hs).1 (isS_ok hs).1 rfl rfl rfl dX4_insert_67 (fun r67 => ?_)
        refine aw_iload (i := 4) (q := 4) dX4_insert_70 rfl ?_
        refine aw_isub dX4_insert_72 ?_
        refine aw_copy (st := []) acX4_28 (isS_SH hs).2.1 (isS_ok hs).2.1 (isS_SH hs).2.1 (isS_ok hs).2.1 (by omega) (by omega) (by omega) (by omega) (by omega) (Nat.le_of_ble_eq_true rfl) (by decide) dX4_insert_73 ?_
        refine aw_aload_n (i := 0) (q := 0) dX4_insert_76 rfl rfl ?_
        refine aw_getR (r := a + 2) flX4_15 (isS_SH hs).1 (isS_ok hs).1 rfl (isS_rf hs hR).2.1 dX4_insert_77 ?_
        refine aw_iload (i := 4) (q := 4) dX4_insert_80 rfl ?_
        refine aw_aload_n (i := 0) (q := 0) dX4_insert_82 rfl rfl ?_
        refine aw_getR (r := a + 2) flX4_15 (isS_SH hs).1 (isS_ok hs).1 rfl (isS_rf hs hR).2.1 dX4_insert_83 ?_
        refine aw_iload (i := 4) (q := 4) dX4_insert_86 rfl ?_
        refine aw_iconst dX4_insert_88 ?_
        refine aw_iadd dX4_insert_89 ?_
        refine aw_aload_n (i := 0) (q := 0) dX4_insert_90 rfl rfl ?_
        refine aw_getIk (x := mi a 4) 4 flX4_24 (isS_SH hs).1 (isS_ok hs).1 rfl rfl (by (rw [acp_a (by omega)]) <;> rfl) dX4_insert_91 (fun r91 => ?_)
        refine aw_iload (i := 4) (q := 4) dX4_insert_94 rfl ?_
        refine aw_isub dX4_insert_96 ?_
        refine aw_copy (st := []) acX4_28 (isS_SH hs).2.2.1 (isS_ok hs).2.2.1 (isS_SH hs).2.2.1 (isS_ok hs).2.2.1 (by omega) (by omega) (by omega) (by omega) (by omega) (Nat.le_of_ble_eq_true rfl) (by decide) dX4_insert_97 ?_
        refine aw_aload_n (i := 0) (q := 0) dX4_insert_100 rfl rfl ?_
        refine aw_getR (r := a + 3) flX4_18 (isS_SH hs).1 (isS_ok hs).1 rfl (isS_rf hs hR).2.2.1 dX4_insert_101 ?_
        refine aw_iload (i := 4) (q := 4) dX4_insert_104 rfl ?_
        refine aw_aload_n (i := 0) (q := 0) dX4_insert_106 rfl rfl ?_
        refine aw_getR (r := a + 3) flX4_18 (isS_SH hs).1 (isS_ok hs).1 rfl (isS_rf hs hR).2.2.1 dX4_insert_107 ?_
        refine aw_iload (i := 4) (q := 4) dX4_insert_110 rfl ?_
        refine aw_iconst dX4_insert_112 ?_
        refine aw_iadd dX4_insert_113 ?_
        refine aw_aload_n (i := 0) (q := 0) dX4_insert_114 rfl rfl ?_
        refine aw_getIk (x := mi a 4) 4 flX4_24 (isS_SH hs).1 (isS_ok hs).1 rfl rfl (by (rw [acp_a (by omega), acp_a (by omega)]) <;> rfl) dX4_insert_115 (fun r115 => ?_)
        refine aw_iload (i := 4) (q := 4) dX4_insert_118 rfl ?_
        refine aw_isub dX4_insert_120 ?_
        refine aw_copy (st := []) acX4_28 (isS_SH hs).2.2.2.1 (isS_ok hs).2.2.2.1 (isS_SH hs).2.2.2.1 (isS_ok hs).2.2.2.1 (by omega) (by omega) (by omega) (by omega) (by omega) (Nat.le_of_ble_eq_true rfl) (by decide) dX4_insert_121 ?_
        refine aw_aload_n (i := 0) (q := 0) dX4_insert_124 rfl rfl ?_
        refine aw_getR (r := a + 1) flX4_9 (isS_SH hs).1 (isS_ok hs).1 rfl (isS_rf hs hR).1 dX4_insert_125 ?_
        refine aw_iload (i := 4) (q := 4) dX4_insert_128 rfl ?_
        refine aw_iload_n (i := 1) (q := 1) dX4_insert_130 rfl rfl ?_
        refine aw_iast (isS_SH hs).2.1 (isS_ok hs).2.1 ⟨by omega, by omega⟩ (by first | assumption | omega) dX4_insert_131 ?_
        refine aw_aload_n (i := 0) (q := 0) dX4_insert_132 rfl rfl ?_
        refine aw_getR (r := a + 2) flX4_15 (isS_SH hs).1 (isS_ok hs).1 rfl (isS_rf hs hR).2.1 dX4_insert_133 ?_
        refine aw_iload (i := 4) (q := 4) dX4_insert_136 rfl ?_
        refine aw_iload_n (i := 2) (q := 2) dX4_insert_138 rfl rfl ?_
        refine aw_iast (isS_SH hs).2.2.1 (isS_ok hs).2.2.1 ⟨by omega, by omega⟩ (by first | assumption | omega) dX4_insert_139 ?_
        refine aw_aload_n (i := 0) (q := 0) dX4_insert_140 rfl rfl ?_
        refine aw_getR (r := a + 3) flX4_18 (isS_SH hs).1 (isS_ok hs).1 rfl (isS_rf hs hR).2.2.1 dX4_insert_141 ?_
        refine aw_iload (i := 4) (q := 4) dX4_insert_144 rfl ?_
        refine aw_iload_n (i := 3) (q := 3) dX4_insert_146 rfl rfl ?_
        refine aw_iast (isS_SH hs).2.2.2.1 (isS_ok hs).2.2.2.1 ⟨by omega, by omega⟩ (by first | assumption | omega) dX4_insert_147 ?_
        refine aw_aload_n (i := 0) (q := 0) dX4_insert_148 rfl rfl ?_
        refine aw_dup dX4_insert_149 rfl ?_
        refine aw_getIk (x := mi a 4) 4 flX4_24 (isS_SH hs).1 (isS_ok hs).1 rfl rfl (by (rw [aup_a (by omega), aup_a (by omega), aup_a (by omega), acp_a (by omega), acp_a (by omega), acp_a (by omega)]) <;> rfl) dX4_insert_150 (fun r150 => ?_)
        refine aw_iconst dX4_insert_153 ?_
        refine aw_iadd dX4_insert_154 ?_
        refine aw_putIk 4 flX4_24 (isS_SH hs).1 (isS_ok hs).1 rfl rfl rfl (by first | assumption | omega) dX4_insert_155 ?_
        have hP : insP mi (aup (aup (aup (aup (acp (acp (acp mi (a + 1) z (a + 1) (z + 1) ((mi a 4) - z)) (a + 2) z (a + 2) (z + 1) ((mi a 4) - z)) (a + 3) z (a + 3) (z + 1) ((mi a 4) - z)) (a + 1) z b) (a + 2) z c) (a + 3) z t) a 4 ((mi a 4) + 1)) a z b c t := ⟨(by unfold aup acp; repeat (first | rw [if_pos (by omega)] | rw [if_neg (by omega)] | dsimp only)), (fun i x y => by unfold sF aup acp; repeat (first | rw [if_pos (by omega)] | rw [if_neg (by omega)] | dsimp only)), (by unfold sF aup acp; repeat (first | rw [if_pos (by omega)] | rw [if_neg (by omega)] | dsimp only)), (fun i x y => by
      unfold sF aup acp; repeat (first | rw [if_pos (by omega)] | rw [if_neg (by omega)] | dsimp only)
      refine Prod.ext ?_ (Prod.ext ?_ ?_) <;> (dsimp only; congr 1; omega)), (fun x j hx h1 h2 h3 => by unfold aup acp; repeat (first | rw [if_pos (by omega)] | rw [if_neg (by omega)] | dsimp only))⟩
        exact aw_vret ⟨rfl, rfl, rfl, insP_perm hP (by omega), insP_ok hP ho hn (by omega) hb hc ht hlo (hhi9 (by omega)), hP.1, hP.2.2.2.2⟩ (Nat.le_refl _) (Nat.le_refl _) dX4_insert_158
      · refine aw_aload_n (i := 0) (q := 0) dX4_insert_35 rfl rfl ?_
        refine aw_getR (r := a + 1) flX4_9 (isS_SH hs).1 (isS_ok hs).1 rfl (isS_rf hs hR).1 dX4_insert_36 ?_
        refine aw_iload (i := 4) (q := 4) dX4_insert_39 rfl ?_
        refine aw_ialdv (x := mi (a + 1) z) (isS_SH hs).2.1 (isS_ok hs).2.1 ⟨by omega, by omega⟩ rfl dX4_insert_41 (fun r41 => ?_)
        refine aw_iload_n (i := 1) (q := 1) dX4_insert_42 rfl rfl ?_
        refine aw_icmp_ge (tgt := 52) dX4_insert_43 (by decide) (by first | assumption | omega) (by first | assumption | omega) (fun c43 => ?_) (fun c43 => ?_)
        · refine aw_aload_n (i := 0) (q := 0) dX4_insert_52 rfl rfl ?_
          refine aw_getR (r := a + 1) flX4_9 (isS_SH hs).1 (isS_ok hs).1 rfl (isS_rf hs hR).1 dX4_insert_53 ?_
          refine aw_iload (i := 4) (q := 4) dX4_insert_56 rfl ?_
          refine aw_aload_n (i := 0) (q := 0) dX4_insert_58 rfl rfl ?_
          refine aw_getR (r := a + 1) flX4_9 (isS_SH hs).1 (isS_ok hs).1 rfl (isS_rf hs hR).1 dX4_insert_59 ?_
          refine aw_iload (i := 4) (q := 4) dX4_insert_62 rfl ?_
          refine aw_iconst dX4_insert_64 ?_
          refine aw_iadd dX4_insert_65 ?_
          refine aw_aload_n (i := 0) (q := 0) dX4_insert_66 rfl rfl ?_
          refine aw_getIk (x := mi a 4) 4 flX4_24 (isS_SH hs).1 (isS_ok hs).1 rfl rfl rfl dX4_insert_67 (fun r67 => ?_)
          refine aw_iload (i := 4) (q := 4) dX4_insert_70 rfl ?_
          refine aw_isub dX4_insert_72 ?_
          refine aw_copy (st := []) acX4_28 (isS_SH hs).2.1 (isS_ok hs).2.1 (isS_SH hs).2.1 (isS_ok hs).2.1 (by omega) (by omega) (by omega) (by omega) (by omega) (Nat.le_of_ble_eq_true rfl) (by decide) dX4_insert_73 ?_
          refine aw_aload_n (i := 0) (q := 0) dX4_insert_76 rfl rfl ?_
          refine aw_getR (r := a + 2) flX4_15 (isS_SH hs).1 (isS_ok hs).1 rfl (isS_rf hs hR).2.1 dX4_insert_77 ?_
          refine aw_iload (i := 4) (q := 4) dX4_insert_80 rfl ?_
          refine aw_aload_n (i := 0) (q := 0) dX4_insert_82 rfl rfl ?_
          refine aw_getR (r := a + 2) flX4_15 (isS_SH hs).1 (isS_ok hs).1 rfl (isS_rf hs hR).2.1 dX4_insert_83 ?_
          refine aw_iload (i := 4) (q := 4) dX4_insert_86 rfl ?_
          refine aw_iconst dX4_insert_88 ?_
          refine aw_iadd dX4_insert_89 ?_
          refine aw_aload_n (i := 0) (q := 0) dX4_insert_90 rfl rfl ?_
          refine aw_getIk (x := mi a 4) 4 flX4_24 (isS_SH hs).1 (isS_ok hs).1 rfl rfl (by (rw [acp_a (by omega)]) <;> rfl) dX4_insert_91 (fun r91 => ?_)
          refine aw_iload (i := 4) (q := 4) dX4_insert_94 rfl ?_
          refine aw_isub dX4_insert_96 ?_
          refine aw_copy (st := []) acX4_28 (isS_SH hs).2.2.1 (isS_ok hs).2.2.1 (isS_SH hs).2.2.1 (isS_ok hs).2.2.1 (by omega) (by omega) (by omega) (by omega) (by omega) (Nat.le_of_ble_eq_true rfl) (by decide) dX4_insert_97 ?_
          refine aw_aload_n (i := 0) (q := 0) dX4_insert_100 rfl rfl ?_
          refine aw_getR (r := a + 3) flX4_18 (isS_SH hs).1 (isS_ok hs).1 rfl (isS_rf hs hR).2.2.1 dX4_insert_101 ?_
          refine aw_iload (i := 4) (q := 4) dX4_insert_104 rfl ?_
          refine aw_aload_n (i := 0) (q := 0) dX4_insert_106 rfl rfl ?_
          refine aw_getR (r := a + 3) flX4_18 (isS_SH hs).1 (isS_ok hs).1 rfl (isS_rf hs hR).2.2.1 dX4_insert_107 ?_
          refine aw_iload (i := 4) (q := 4) dX4_insert_110 rfl ?_
          refine aw_iconst dX4_insert_112 ?_
          refine aw_iadd dX4_insert_113 ?_
          refine aw_aload_n (i := 0) (q := 0) dX4_insert_114 rfl rfl ?_
          refine aw_getIk (x := mi a 4) 4 flX4_24 (isS_SH hs).1 (isS_ok hs).1 rfl rfl (by (rw [acp_a (by omega), acp_a (by omega)]) <;> rfl) dX4_insert_115 (fun r115 => ?_)
          refine aw_iload (i := 4) (q := 4) dX4_insert_118 rfl ?_
          refine aw_isub dX4_insert_120 ?_
          refine aw_copy (st := []) acX4_28 (isS_SH hs).2.2.2.1 (isS_ok hs).2.2.2.1 (isS_SH hs).2.2.2.1 (isS_ok hs).2.2.2.1 (by omega) (by omega) (by omega) (by omega) (by omega) (Nat.le_of_ble_eq_true rfl) (by decide) dX4_insert_121 ?_
          refine aw_aload_n (i := 0) (q := 0) dX4_insert_124 rfl rfl ?_
          refine aw_getR (r := a + 1) flX4_9 (isS_SH hs).1 (isS_ok hs).1 rfl (isS_rf hs hR).1 dX4_insert_125 ?_
          refine aw_iload (i := 4) (q := 4) dX4_insert_128 rfl ?_
          refine aw_iload_n (i := 1) (q := 1) dX4_insert_130 rfl rfl ?_
          refine aw_iast (isS_SH hs).2.1 (isS_ok hs).2.1 ⟨by omega, by omega⟩ (by first | assumption | omega) dX4_insert_131 ?_
          refine aw_aload_n (i := 0) (q := 0) dX4_insert_132 rfl rfl ?_
          refine aw_getR (r := a + 2) flX4_15 (isS_SH hs).1 (isS_ok hs).1 rfl (isS_rf hs hR).2.1 dX4_insert_133 ?_
          refine aw_iload (i := 4) (q := 4) dX4_insert_136 rfl ?_
          refine aw_iload_n (i := 2) (q := 2) dX4_insert_138 rfl rfl ?_
          refine aw_iast (isS_SH hs).2.2.1 (isS_ok hs).2.2.1 ⟨by omega, by omega⟩ (by first | assumption | omega) dX4_insert_139 ?_
          refine aw_aload_n (i := 0) (q := 0) dX4_insert_140 rfl rfl ?_
          refine aw_getR (r := a + 3) flX4_18 (isS_SH hs).1 (isS_ok hs).1 rfl (isS_rf hs hR).2.2.1 dX4_insert_141 ?_
          refine aw_iload (i := 4) (q := 4) dX4_insert_144 rfl ?_
          refine aw_iload_n (i := 3) (q := 3) dX4_insert_146 rfl rfl ?_
          refine aw_iast (isS_SH hs).2.2.2.1 (isS_ok hs).2.2.2.1 ⟨by omega, by omega⟩ (by first | assumption | omega) dX4_insert_147 ?_
          refine aw_aload_n (i := 0) (q := 0) dX4_insert_148 rfl rfl ?_
          refine aw_dup dX4_insert_149 rfl ?_
          refine aw_getIk (x := mi a 4) 4 flX4_24 (isS_SH hs).1 (isS_ok hs).1 rfl rfl (by (rw [aup_a (by omega), aup_a (by omega), aup_a (by omega), acp_a (by omega), acp_a (by omega), acp_a (by omega)]) <;> rfl) dX4_insert_150 (fun r150 => ?_)
          refine aw_iconst dX4_insert_153 ?_
          refine aw_iadd dX4_insert_154 ?_
          refine aw_putIk 4 flX4_24 (isS_SH hs).1 (isS_ok hs).1 rfl rfl rfl (by first | assumption | omega) dX4_insert_155 ?_
          have hP : insP mi (aup (aup (aup (aup (acp (acp (acp mi (a + 1) z (a + 1) (z + 1) ((mi a 4) - z)) (a + 2) z (a + 2) (z + 1) ((mi a 4) - z)) (a + 3) z (a + 3) (z + 1) ((mi a 4) - z)) (a + 1) z b) (a + 2) z c) (a + 3) z t) a 4 ((mi a 4) + 1)) a z b c t := ⟨(by unfold aup acp; repeat (first | rw [if_pos (by omega)] | rw [if_neg (by omega)] | dsimp only)), (fun i x y => by unfold sF aup acp; repeat (first | rw [if_pos (by omega)] | rw [if_neg (by omega)] | dsimp only)), (by unfold sF aup acp; repeat (first | rw [if_pos (by omega)] | rw [if_neg (by omega)] | dsimp only)), (fun i x y => by
      unfold sF aup acp; repeat (first | rw [if_pos (by omega)] | rw [if_neg (by omega)] | dsimp only)
      refine Prod.ext ?_ (Prod.ext ?_ ?_) <;> (dsimp only; congr 1; omega)), (fun x j hx h1 h2 h3 => by unfold aup acp; repeat (first | rw [if_pos (by omega)] | rw [if_neg (by omega)] | dsimp only))⟩
          exact aw_vret ⟨rfl, rfl, rfl, insP_perm hP (by omega), insP_ok hP ho hn (by omega) hb hc ht hlo (hhi9 (by omega)), hP.1, hP.2.2.2.2⟩ (Nat.le_refl _) (Nat.le_refl _) dX4_insert_158
        · refine aw_iinc (i := 4) (q := 4) (x := z) (lv' := [(0, .ref a), (1, iI b), (2, iI c), (3, iI t), (4, iI (z + 1))]) [1, 2, 3, 4, 0] dX4_insert_46 rfl (by decide) rfl ?_
          refine aw_goto (tgt := 15) dX4_insert_49 (by decide) ?_
          exact ih _ (by omega) (fun i x y => by by_cases e : i = z; (subst e; omega); (exact hlo i x (by omega))) (fun i x y => hge i (by omega) y) (by omega)
theorem s_X4_insert {mr : aR} (hR : Rok mr) {mi : aM} {a : Nat} (hs : isS a) (ho : sOk mi a) {b c t : Int} (hn : mi a 4 < 300) (hb : 0 ≤ b ∧ b < 12) (hc : -1000 ≤ c ∧ c ≤ 200000) (ht : c < t ∧ t ≤ c + 50) (hnew : ∀ i : Int, 0 ≤ i → i < mi a 4 → ¬ (mi (a + 2) i = c ∧ mi (a + 1) i = b)) : SPg yX4_insert cX4_insert 5 none 2 [.ref a, iI b, iI c, iI t] mi mr (Pv mr (fun m => (sL m a).Perm ((b, c, t) :: sL mi a) ∧ sOk m a ∧ m a 4 = mi a 4 + 1 ∧ ∀ (x : Nat) (j : Int), (x ≠ a ∨ j ≠ 4) → x ≠ a + 1 → x ≠ a + 2 → x ≠ a + 3 → m x j = mi x j)) := by
  refine SPg.void rfl (by decide +kernel) (Nat.le_of_ble_eq_true rfl) ?_
  show AWm RX4 cX4_insert 5 2 _ 0 [(0, .ref a), (1, iI b), (2, iI c), (3, iI t)] [] mi mr
  refine aw_aload_n (i := 0) (q := 0) dX4_insert_0 rfl rfl ?_
  refine aw_cVp (As := []) (st := []) clX4_34 (s_X4_isFull hR hs) (isS_SH hs).1 rfl (isS_ok hs).1 rfl rfl (Nat.le_of_ble_eq_true rfl) (by decide) (by decide) (Nat.le_refl _) (Nat.le_refl _) dX4_insert_1 (fun v1 hv1 => ?_)
  refine aw_if_eq (tgt := 8) dX4_insert_4 (by decide) (by first | assumption | omega) (fun c4 => ?_) (fun c4 => ?_)
  · refine aw_aload_n (i := 0) (q := 0) dX4_insert_8 rfl rfl ?_
    refine aw_iload_n (i := 2) (q := 2) dX4_insert_9 rfl rfl ?_
    refine aw_cVp (As := [iI c]) (st := []) clX4_38 (s_X4_rankOf hR hs ho (by omega)) (isS_SH hs).1 rfl (isS_ok hs).1 rfl rfl (Nat.le_of_ble_eq_true rfl) (by decide) (by decide) (Nat.le_refl _) (Nat.le_refl _) dX4_insert_10 (fun v10 hv10 => ?_)
    refine aw_istore (i := 4) (lv' := [(0, .ref a), (1, iI b), (2, iI c), (3, iI t), (4, iI v10)]) [1, 2, 3, 4, 0] dX4_insert_13 (by decide) rfl ?_
    exact l_insert hR hs ho hn hb hc ht hnew ((mi a 4).toNat + 1) v10 hv10.1 (fun i x y => Or.inl (hv10.2.1 i x y)) hv10.2.2 (by omega)
  · exact absurd hn (by omega)
theorem cpP_fin {mi m : aM} {a o : Nat} (ho : sOk mi o) (h4 : m a 4 = mi o 4) (hE : ∀ i : Int, 0 ≤ i → i < mi o 4 → sF m a i = sF mi o i) (hF : ∀ (x : Nat) (j : Int), (x ≠ a ∨ j ≠ 4) → x ≠ a + 1 → x ≠ a + 2 → x ≠ a + 3 → m x j = mi x j) : sL m a = sL mi o ∧ sOk m a ∧ m a 4 = mi o 4 ∧ ∀ (x : Nat) (j : Int), (x ≠ a ∨ j ≠ 4) → x ≠ a + 1 → x ≠ a + 2 → x ≠ a + 3 → m x j = mi x j := by
  refine ⟨?_, ?_, h4, hF⟩
  · unfold sL
    rw [h4]
    exact lst_congr (fun i x y => hE i x (by omega))
  · obtain ⟨o1, o2, o3⟩ := ho
    unfold sOk
    rw [h4]
    have v : ∀ i : Int, 0 ≤ i → i < mi o 4 → m (a + 1) i = mi (o + 1) i ∧ m (a + 2) i = mi (o + 2) i ∧ m (a + 3) i = mi (o + 3) i := fun i x y => by
      have := hE i x y
      unfold sF at this
      simp only [Prod.mk.injEq] at this
      exact this
    refine ⟨o1, fun i x y => ?_, fun i j x y z => ?_⟩
    · have := v i x y; have := o2 i x y; omega
    · have := v i x (by omega); have := v j (by omega) z; have := o3 i j x y z; omega
theorem s_X4_copyFrom {mr : aR} (hR : Rok mr) {mi : aM} {a o : Nat} (hs : isS a) (hso : isS o) (hne : o ≠ a) (ho : sOk mi o) : SPg yX4_copyFrom cX4_copyFrom 2 none 1 [.ref a, .ref o] mi mr (Pv mr (fun m => sL m a = sL mi o ∧ sOk m a ∧ m a 4 = mi o 4 ∧ ∀ (x : Nat) (j : Int), (x ≠ a ∨ j ≠ 4) → x ≠ a + 1 → x ≠ a + 2 → x ≠ a + 3 → m x j = mi x j)) := by
  refine SPg.void rfl (by decide +kernel) (Nat.le_of_ble_eq_true rfl) ?_
  show AWm RX4 cX4_copyFrom 2 1 _ 0 [(0, .ref a), (1, .ref o)] [] mi mr
  have hc1 := ho.1
  have hapart : o + 4 < a ∨ a + 4 < o := by unfold isS at hs hso; omega
  refine aw_aload_n (i := 0) (q := 0) dX4_copyFrom_0 rfl rfl ?_
  refine aw_aload_n (i := 1) (q := 1) dX4_copyFrom_1 rfl rfl ?_
  refine aw_getIk (x := mi o 4) 4 flX4_24 (isS_SH hso).1 (isS_ok hso).1 rfl rfl rfl dX4_copyFrom_2 (fun r2 => ?_)
  refine aw_putIk 4 flX4_24 (isS_SH hs).1 (isS_ok hs).1 rfl rfl rfl (by first | assumption | omega) dX4_copyFrom_5 ?_
  refine aw_aload_n (i := 1) (q := 1) dX4_copyFrom_8 rfl rfl ?_
  refine aw_getR (r := o + 1) flX4_9 (isS_SH hso).1 (isS_ok hso).1 rfl (isS_rf hso hR).1 dX4_copyFrom_9 ?_
  refine aw_iconst dX4_copyFrom_12 ?_
  refine aw_aload_n (i := 0) (q := 0) dX4_copyFrom_13 rfl rfl ?_
  refine aw_getR (r := a + 1) flX4_9 (isS_SH hs).1 (isS_ok hs).1 rfl (isS_rf hs hR).1 dX4_copyFrom_14 ?_
  refine aw_iconst dX4_copyFrom_17 ?_
  refine aw_aload_n (i := 0) (q := 0) dX4_copyFrom_18 rfl rfl ?_
  refine aw_getIk (x := mi o 4) 4 flX4_24 (isS_SH hs).1 (isS_ok hs).1 rfl rfl (by (rw [aup_eq]) <;> rfl) dX4_copyFrom_19 (fun r19 => ?_)
  refine aw_copy (st := []) acX4_28 (isS_SH hso).2.1 (isS_ok hso).2.1 (isS_SH hs).2.1 (isS_ok hs).2.1 (by omega) (by omega) (by omega) (by omega) (by omega) (Nat.le_of_ble_eq_true rfl) (by decide) dX4_copyFrom_22 ?_
  refine aw_aload_n (i := 1) (q := 1) dX4_copyFrom_25 rfl rfl ?_
  refine aw_getR (r := o + 2) flX4_15 (isS_SH hso).1 (isS_ok hso).1 rfl (isS_rf hso hR).2.1 dX4_copyFrom_26 ?_
  refine aw_iconst dX4_copyFrom_29 ?_
  refine aw_aload_n (i := 0) (q := 0) dX4_copyFrom_30 rfl rfl ?_
  refine aw_getR (r := a + 2) flX4_15 (isS_SH hs).1 (isS_ok hs).1 rfl (isS_rf hs hR).2.1 dX4_copyFrom_31 ?_
  refine aw_iconst dX4_copyFrom_34 ?_
  refine aw_aload_n (i := 0) (q := 0) dX4_copyFrom_35 rfl rfl ?_
  refine aw_getIk (x := mi o 4) 4 flX4_24 (isS_SH hs).1 (isS_ok hs).1 rfl rfl (by (rw [acp_a (by omega), aup_eq]) <;> rfl) dX4_copyFrom_36 (fun r36 => ?_)
  refine aw_copy (st := []) acX4_28 (isS_SH hso).2.2.1 (isS_ok hso).2.2.1 (isS_SH hs).2.2.1 (isS_ok hs).2.2.1 (by omega) (by omega) (by omega) (by omega) (by omega) (Nat.le_of_ble_eq_true rfl) (by decide) dX4_copyFrom_39 ?_
  refine aw_aload_n (i := 1) (q := 1) dX4_copyFrom_42 rfl rfl ?_
  refine aw_getR (r := o + 3) flX4_18 (isS_SH hso).1 (isS_ok hso).1 rfl (isS_rf hso hR).2.2.1 dX4_copyFrom_43 ?_
  refine aw_iconst dX4_copyFrom_46 ?_
  refine aw_aload_n (i := 0) (q := 0) dX4_copyFrom_47 rfl rfl ?_
  refine aw_getR (r := a + 3) flX4_18 (isS_SH hs).1 (isS_ok hs).1 rfl (isS_rf hs hR).2.2.1 dX4_copyFrom_48 ?_
  refine aw_iconst dX4_copyFrom_51 ?_
  refine aw_aload_n (i := 0) (q := 0) dX4_copyFrom_52 rfl rfl ?_
  refine aw_getIk (x := mi o 4) 4 flX4_24 (isS_SH hs).1 (isS_ok hs).1 rfl rfl (by (rw [acp_a (by omega), acp_a (by omega), aup_eq]) <;> rfl) dX4_copyFrom_53 (fun r53 => ?_)
  refine aw_copy (st := []) acX4_28 (isS_SH hso).2.2.2.1 (isS_ok hso).2.2.2.1 (isS_SH hs).2.2.2.1 (isS_ok hs).2.2.2.1 (by omega) (by omega) (by omega) (by omega) (by omega) (Nat.le_of_ble_eq_true rfl) (by decide) dX4_copyFrom_56 ?_
  have hE4 : (acp (acp (acp (aup mi a 4 (mi o 4)) (o + 1) 0 (a + 1) 0 (mi o 4)) (o + 2) 0 (a + 2) 0 (mi o 4)) (o + 3) 0 (a + 3) 0 (mi o 4)) a 4 = mi o 4 := by unfold aup acp; repeat (first | rw [if_pos (by omega)] | rw [if_neg (by omega)] | dsimp only)
  have hE : ∀ i : Int, 0 ≤ i → i < mi o 4 → sF (acp (acp (acp (aup mi a 4 (mi o 4)) (o + 1) 0 (a + 1) 0 (mi o 4)) (o + 2) 0 (a + 2) 0 (mi o 4)) (o + 3) 0 (a + 3) 0 (mi o 4)) a i = sF mi o i := fun i x y => by refine Prod.ext ?_ (Prod.ext ?_ ?_) <;> dsimp only [sF]; (rw [acp_a (by omega), acp_a (by omega), acp_in (by omega) (by omega), aup_a (by omega)]; congr 1; omega); (rw [acp_a (by omega), acp_in (by omega) (by omega), acp_a (by omega), aup_a (by omega)]; congr 1; omega); (rw [acp_in (by omega) (by omega), acp_a (by omega), acp_a (by omega), aup_a (by omega)]; congr 1; omega)
  have hF : ∀ (x : Nat) (j : Int), (x ≠ a ∨ j ≠ 4) → x ≠ a + 1 → x ≠ a + 2 → x ≠ a + 3 → (acp (acp (acp (aup mi a 4 (mi o 4)) (o + 1) 0 (a + 1) 0 (mi o 4)) (o + 2) 0 (a + 2) 0 (mi o 4)) (o + 3) 0 (a + 3) 0 (mi o 4)) x j = mi x j := fun x j hx h1 h2 h3 => by unfold aup acp; repeat (first | rw [if_pos (by omega)] | rw [if_neg (by omega)] | dsimp only)
  exact aw_vret ⟨rfl, rfl, rfl, cpP_fin ho (hE4) hE hF⟩ (Nat.le_refl _) (Nat.le_refl _) dX4_copyFrom_59
