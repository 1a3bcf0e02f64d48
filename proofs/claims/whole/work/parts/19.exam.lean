-- part 19: takeSounding, examine and the calls on strokes (printed by wip/whole/gen/p19.py)
theorem sL_mem {mi : aM} {a : Nat} {s : Str} (ho : sOk mi a) : s ∈ sL mi a ↔ ∃ i : Int, 0 ≤ i ∧ i < mi a 4 ∧ sF mi a i = s := by
  unfold sL
  rw [lst_mem]
  have := ho.1
  constructor
  · rintro ⟨i, h0, h1, e⟩; exact ⟨i, h0, by omega, e⟩
  · rintro ⟨i, h0, h1, e⟩; exact ⟨i, h0, by omega, e⟩
theorem sL_len {mi : aM} {a : Nat} (ho : sOk mi a) : ((sL mi a).length : Int) = mi a 4 := by
  unfold sL
  rw [lst_len]
  have := ho.1
  omega
def tkI (mi m : aM) (a : Nat) (t g z : Int) (rem : List Str) : Prop := sOk m a ∧ (sL mi a).Perm (rem ++ sL m a) ∧ (∀ s ∈ rem, s.2.2 = t) ∧ (0 ≤ g ∧ g < 4096) ∧ (∀ b : Int, 0 ≤ b → b < 12 → (bit g b ↔ ∃ s ∈ rem, s.1 = b)) ∧ (-1 ≤ z ∧ z < m a 4) ∧ (∀ j : Int, z < j → j < m a 4 → m (a + 3) j ≠ t) ∧ (∀ (x : Nat) (j : Int), (x ≠ a ∨ j ≠ 4) → x ≠ a + 1 → x ≠ a + 2 → x ≠ a + 3 → m x j = mi x j)
theorem tkI_rem {mi m m1 : aM} {a : Nat} {t g z : Int} {rem : List Str} (h : tkI mi m a t g z rem) (hz : 0 ≤ z) (ht : m (a + 3) z = t) (hr : remP m m1 a z) : tkI mi m1 a t ((g.toNat ||| ((2 ^ (m (a + 1) z).toNat : Nat) : Int).toNat : Nat) : Int) (z - 1) (sF m a z :: rem) := by
  obtain ⟨h1, h2, h3, h4, h5, h6, h7, h8⟩ := h
  have hz9 := h1.2.1 z hz h6.2
  have ok := remP_ok hr h1 ⟨hz, h6.2⟩
  refine ⟨ok, ?_, fun s hs => ?_, or_rng h4 (pow_rng hz9.1), fun b b0 b1 => ?_, ?_, fun j j0 j1 => ?_, fun x j a1 a2 a3 a4 => ?_⟩
  · have e := remP_perm hr ⟨hz, h6.2⟩
    exact h2.trans ((e.append_left rem).trans List.perm_middle)
  · rcases List.mem_cons.mp hs with rfl | hs
    · exact ht
    · exact h3 s hs
  · rw [bit_or, h5 b b0 b1, bit_pow (by omega) b0]
    constructor
    · rintro (⟨s, q1, q2⟩ | q)
      · exact ⟨s, List.mem_cons_of_mem _ q1, q2⟩
      · exact ⟨_, List.mem_cons_self, q.symm⟩
    · rintro ⟨s, q1, q2⟩
      rcases List.mem_cons.mp q1 with rfl | q1
      · exact Or.inr q2.symm
      · exact Or.inl ⟨s, q1, q2⟩
  · rw [hr.1]; omega
  · rw [hr.1] at j1
    have e := sF_eq (hr.2.2.1 j (by omega) j1)
    rw [e.2.2]
    exact h7 (j + 1) (by omega) (by omega)
  · rw [hr.2.2.2 x j a1 a2 a3 a4]
    exact h8 x j a1 a2 a3 a4
theorem tkI_end {mi m : aM} {a : Nat} {t g z : Int} {rem : List Str} (h : tkI mi m a t g z rem) (hz : z < 0) : ∃ rem : List Str, (sL mi a).Perm (rem ++ sL m a) ∧ (∀ s ∈ rem, s.2.2 = t) ∧ (∀ s ∈ sL m a, s.2.2 ≠ t) ∧ (0 ≤ g ∧ g < 4096) ∧ (∀ b : Int, 0 ≤ b → b < 12 → (bit g b ↔ ∃ s ∈ rem, s.1 = b)) ∧ sOk m a ∧ ∀ (x : Nat) (j : Int), (x ≠ a ∨ j ≠ 4) → x ≠ a + 1 → x ≠ a + 2 → x ≠ a + 3 → m x j = mi x j := by
  obtain ⟨h1, h2, h3, h4, h5, h6, h7, h8⟩ := h
  refine ⟨rem, h2, h3, fun s hs => ?_, h4, h5, h1, h8⟩
  obtain ⟨i, i0, i1, rfl⟩ := (sL_mem h1).mp hs
  exact h7 i (by omega) i1
theorem l_take2 {mr : aR} (hR : Rok mr) {v3 : Int} {mi : aM} {a : Nat} (hs : isS a) {t : Int} (h_t : -2147483648 ≤ t ∧ t ≤ 2147483647) : ∀ (n : Nat) (m : aM) (g z : Int) (rem : List Str), tkI mi m a t g z rem → -1 ≤ z → z + 1 < n → AWm RX4 cX4_takeSounding 5 3 (Pi mr (fun r m => ∃ rem : List Str, (sL mi a).Perm (rem ++ sL m a) ∧ (∀ s ∈ rem, s.2.2 = t) ∧ (∀ s ∈ sL m a, s.2.2 ≠ t) ∧ (0 ≤ r ∧ r < 4096) ∧ (∀ b : Int, 0 ≤ b → b < 12 → (bit r b ↔ ∃ s ∈ rem, s.1 = b)) ∧ sOk m a ∧ ∀ (x : Nat) (j : Int), (x ≠ a ∨ j ≠ 4) → x ≠ a + 1 → x ≠ a + 2 → x ≠ a + 3 → m x j = mi x j)) 33 [(0, .ref a), (1, iI t), (2, iI g), (3, iI v3), (4, iI z)] [] m mr := by
  intro n
  induction n with
  | zero => intro m g z rem h1 h9 h2; omega
  | succ n ih =>
    intro m g z rem h1 h9 h2
    obtain ⟨i1, i2, i3, i4, i5, i6, i7, i8⟩ := id h1
    have hc1 := i1.1
    refine aw_iload (i := 4) (q := 4) dX4_takeSounding_33 rfl ?_
    refine aw_if_lt (tgt := 73) dX4_takeSounding_35 (by decide) (by first | assumption | omega) (fun c35 => ?_) (fun c35 => ?_)
    · refine aw_iload_n (i := 2) (q := 2) dX4_takeSounding_73 rfl rfl ?_
      exact aw_iret ⟨_, rfl, rfl, rfl, tkI_end h1 (by omega)⟩ (Nat.le_refl _) (Nat.le_refl _) dX4_takeSounding_74
    · refine aw_aload_n (i := 0) (q := 0) dX4_takeSounding_38 rfl rfl ?_
      refine aw_getR (r := a + 3) flX4_18 (isS_SH hs).1 (isS_ok hs).1 rfl (isS_rf hs hR).2.2.1 dX4_takeSounding_39 ?_
      refine aw_iload (i := 4) (q := 4) dX4_takeSounding_42 rfl ?_
      refine aw_ialdv (x := m (a + 3) z) (isS_SH hs).2.2.2.1 (isS_ok hs).2.2.2.1 ⟨by omega, by omega⟩ rfl dX4_takeSounding_44 (fun r44 => ?_)
      refine aw_iload_n (i := 1) (q := 1) dX4_takeSounding_45 rfl rfl ?_
      refine aw_icmp_ne (tgt := 67) dX4_takeSounding_46 (by decide) (by first | assumption | omega) (by first | assumption | omega) (fun c46 => ?_) (fun c46 => ?_)
      · refine aw_iinc (i := 4) (q := 4) (x := z) (lv' := [(0, .ref a), (1, iI t), (2, iI g), (3, iI v3), (4, iI (z + -1))]) [1, 2, 3, 4, 0] dX4_takeSounding_67 rfl (by decide) rfl ?_
        refine aw_goto (tgt := 33) dX4_takeSounding_70 (by decide) ?_
        exact ih _ _ _ rem ⟨i1, i2, i3, i4, i5, by omega, fun j j0 j1 => by by_cases e : j = z; (subst e; omega); (exact i7 j (by omega) j1), i8⟩ (by omega) (by omega)
      · have hz9 := i1.2.1 z (by omega) (by omega)
        have hp9 := pow_rng (b := m (a + 1) z) hz9.1
        refine aw_iload_n (i := 2) (q := 2) dX4_takeSounding_49 rfl rfl ?_
        refine aw_iconst dX4_takeSounding_50 ?_
        refine aw_aload_n (i := 0) (q := 0) dX4_takeSounding_51 rfl rfl ?_
        refine aw_getR (r := a + 1) flX4_9 (isS_SH hs).1 (isS_ok hs).1 rfl (isS_rf hs hR).1 dX4_takeSounding_52 ?_
        refine aw_iload (i := 4) (q := 4) dX4_takeSounding_55 rfl ?_
        refine aw_ialdv (x := m (a + 1) z) (isS_SH hs).2.1 (isS_ok hs).2.1 ⟨by omega, by omega⟩ rfl dX4_takeSounding_57 (fun r57 => ?_)
        refine aw_ishl (z := ((2 ^ (m (a + 1) z).toNat : Nat) : Int)) dX4_takeSounding_58 (bt_shl (by omega)) ?_
        refine aw_ior (z := (((g).toNat ||| (((2 ^ (m (a + 1) z).toNat : Nat) : Int)).toNat : Nat) : Int)) dX4_takeSounding_59 (bt_or (by omega) (by omega)) ?_
        refine aw_istore_n (i := 2) (lv' := [(0, .ref a), (1, iI t), (2, iI ((((g).toNat ||| (((2 ^ (m (a + 1) z).toNat : Nat) : Int)).toNat : Nat) : Int))), (3, iI v3), (4, iI z)]) [1, 2, 0, 3, 4] dX4_takeSounding_60 rfl (by decide) rfl ?_
        refine aw_aload_n (i := 0) (q := 0) dX4_takeSounding_61 rfl rfl ?_
        refine aw_iload (i := 4) (q := 4) dX4_takeSounding_62 rfl ?_
        refine aw_cVv (As := [iI z]) (st := []) clX4_42 (s_X4_removeAt (mi := m) hR hs h1.1 ⟨by omega, by omega⟩) (isS_SH hs).1 rfl (isS_ok hs).1 rfl rfl (Nat.le_of_ble_eq_true rfl) (by decide) (by decide) (Nat.le_refl _) (Nat.le_refl _) dX4_takeSounding_64 (fun m1 hm1 => ?_)
        refine aw_iinc (i := 4) (q := 4) (x := z) (lv' := [(0, .ref a), (1, iI t), (2, iI ((((g).toNat ||| (((2 ^ (m (a + 1) z).toNat : Nat) : Int)).toNat : Nat) : Int))), (3, iI v3), (4, iI (z + -1))]) [1, 2, 3, 4, 0] dX4_takeSounding_67 rfl (by decide) rfl ?_
        refine aw_goto (tgt := 33) dX4_takeSounding_70 (by decide) ?_
        exact ih _ _ _ _ (tkI_rem h1 (by omega) (by omega) hm1) (by omega) (by omega)
theorem l_take1 {mr : aR} (hR : Rok mr) {mi : aM} {a : Nat} (hs : isS a) (ho : sOk mi a) {t : Int} (h_t : -2147483648 ≤ t ∧ t ≤ 2147483647) : ∀ (n : Nat) (z : Int), (∀ i : Int, 0 ≤ i → i < z → mi (a + 2) i < t) → (0 ≤ z ∧ z ≤ mi a 4) → mi a 4 - z < n → AWm RX4 cX4_takeSounding 5 3 (Pi mr (fun r m => ∃ rem : List Str, (sL mi a).Perm (rem ++ sL m a) ∧ (∀ s ∈ rem, s.2.2 = t) ∧ (∀ s ∈ sL m a, s.2.2 ≠ t) ∧ (0 ≤ r ∧ r < 4096) ∧ (∀ b : Int, 0 ≤ b → b < 12 → (bit r b ↔ ∃ s ∈ rem, s.1 = b)) ∧ sOk m a ∧ ∀ (x : Nat) (j : Int), (x ≠ a ∨ j ≠ 4) → x ≠ a + 1 → x ≠ a + 2 → x ≠ a + 3 → m x j = mi x j)) 4 [(0, .ref a), (1, iI t), (2, iI 0), (3, iI z)] [] mi mr := by
  intro n
  induction n with
  | zero => intro z h1 h2 h3; omega
  | succ n ih =>
    intro z h1 h2 h3
    have hc1 := ho.1
    refine aw_iload_n (i := 3) (q := 3) dX4_takeSounding_4 rfl rfl ?_
    refine aw_aload_n (i := 0) (q := 0) dX4_takeSounding_5 rfl rfl ?_
    refine aw_getIk (x := mi a 4) 4 flX4_24 (isS_SH hs).1 (isS_ok hs).1 rfl rfl rfl dX4_takeSounding_6 (fun r6 => ?_)
    refine aw_icmp_ge (tgt := 28) dX4_takeSounding_9 (by decide) (by first | assumption | omega) (by first | assumption | omega) (fun c9 => ?_) (fun c9 => ?_)
    · refine aw_iload_n (i := 3) (q := 3) dX4_takeSounding_28 rfl rfl ?_
      refine aw_iconst dX4_takeSounding_29 ?_
      refine aw_isub dX4_takeSounding_30 ?_
      refine aw_istore (i := 4) (lv' := [(0, .ref a), (1, iI t), (2, iI 0), (3, iI z), (4, iI (z - 1))]) [1, 2, 3, 4, 0] dX4_takeSounding_31 (by decide) rfl ?_
      have h0 : tkI mi mi a t 0 (z - 1) [] := ⟨ho, List.Perm.refl _, fun s h => (by cases h), by omega, fun b b0 b1 => ⟨fun h => absurd h bit_0, fun h => (by obtain ⟨s, h, -⟩ := h; cases h)⟩, by omega, fun j j0 j1 => by have := ho.2.1 j (by omega) j1; have := sOk_mono ho (i := z) (j := j) (by omega) (by omega) j1; omega, fun _ _ _ _ _ _ => rfl⟩
      exact l_take2 hR hs h_t ((mi a 4).toNat + 1) mi 0 (z - 1) [] h0 (by omega) (by omega)
    · refine aw_aload_n (i := 0) (q := 0) dX4_takeSounding_12 rfl rfl ?_
      refine aw_getR (r := a + 2) flX4_15 (isS_SH hs).1 (isS_ok hs).1 rfl (isS_rf hs hR).2.1 dX4_takeSounding_13 ?_
      refine aw_iload_n (i := 3) (q := 3) dX4_takeSounding_16 rfl rfl ?_
      refine aw_ialdv (x := mi (a + 2) z) (isS_SH hs).2.2.1 (isS_ok hs).2.2.1 ⟨by omega, by omega⟩ rfl dX4_takeSounding_17 (fun r17 => ?_)
      refine aw_iload_n (i := 1) (q := 1) dX4_takeSounding_18 rfl rfl ?_
      refine aw_icmp_ge (tgt := 28) dX4_takeSounding_19 (by decide) (by first | assumption | omega) (by first | assumption | omega) (fun c19 => ?_) (fun c19 => ?_)
      · refine aw_iload_n (i := 3) (q := 3) dX4_takeSounding_28 rfl rfl ?_
        refine aw_iconst dX4_takeSounding_29 ?_
        refine aw_isub dX4_takeSounding_30 ?_
        refine aw_istore (i := 4) (lv' := [(0, .ref a), (1, iI t), (2, iI 0), (3, iI z), (4, iI (z - 1))]) [1, 2, 3, 4, 0] dX4_takeSounding_31 (by decide) rfl ?_
        have h0 : tkI mi mi a t 0 (z - 1) [] := ⟨ho, List.Perm.refl _, fun s h => (by cases h), by omega, fun b b0 b1 => ⟨fun h => absurd h bit_0, fun h => (by obtain ⟨s, h, -⟩ := h; cases h)⟩, by omega, fun j j0 j1 => by have := ho.2.1 j (by omega) j1; have := sOk_mono ho (i := z) (j := j) (by omega) (by omega) j1; omega, fun _ _ _ _ _ _ => rfl⟩
        exact l_take2 hR hs h_t ((mi a 4).toNat + 1) mi 0 (z - 1) [] h0 (by omega) (by omega)
      · refine aw_iinc (i := 3) (q := 3) (x := z) (lv' := [(0, .ref a), (1, iI t), (2, iI 0), (3, iI (z + 1))]) [1, 2, 3, 0] dX4_takeSounding_22 rfl (by decide) rfl ?_
        refine aw_goto (tgt := 4) dX4_takeSounding_25 (by decide) ?_
        exact ih _ (fun i x y => by by_cases e : i = z; (subst e; omega); (exact h1 i x (by omega))) (by omega) (by omega)
theorem s_X4_takeSounding {mr : aR} (hR : Rok mr) {mi : aM} {a : Nat} (hs : isS a) (ho : sOk mi a) {t : Int} (h_t : -2147483648 ≤ t ∧ t ≤ 2147483647) : SPg yX4_takeSounding cX4_takeSounding 5 (some .int) 3 [.ref a, iI t] mi mr (Pi mr (fun r m => ∃ rem : List Str, (sL mi a).Perm (rem ++ sL m a) ∧ (∀ s ∈ rem, s.2.2 = t) ∧ (∀ s ∈ sL m a, s.2.2 ≠ t) ∧ (0 ≤ r ∧ r < 4096) ∧ (∀ b : Int, 0 ≤ b → b < 12 → (bit r b ↔ ∃ s ∈ rem, s.1 = b)) ∧ sOk m a ∧ ∀ (x : Nat) (j : Int), (x ≠ a ∨ j ≠ 4) → x ≠ a + 1 → x ≠ a + 2 → x ≠ a + 3 → m x j = mi x j)) := by
  refine SPg.int rfl (by decide +kernel) (Nat.le_of_ble_eq_true rfl) ?_
  show AWm RX4 cX4_takeSounding 5 3 _ 0 [(0, .ref a), (1, iI t)] [] mi mr
  refine aw_iconst dX4_takeSounding_0 ?_
  refine aw_istore_n (i := 2) (lv' := [(0, .ref a), (1, iI t), (2, iI 0)]) [1, 2, 0] dX4_takeSounding_1 rfl (by decide) rfl ?_
  refine aw_iconst dX4_takeSounding_2 ?_
  refine aw_istore_n (i := 3) (lv' := [(0, .ref a), (1, iI t), (2, iI 0), (3, iI 0)]) [1, 2, 3, 0] dX4_takeSounding_3 rfl (by decide) rfl ?_
  exact l_take1 hR hs ho h_t ((mi a 4).toNat + 1) 0 (fun i x y => by omega) ⟨by omega, ho.1.1⟩ (by have := ho.1; omega)
theorem clash_idx {mi : aM} {a : Nat} {b c t e : Int} (ho : sOk mi a) : clash (sL mi a) b c t e ↔ ∃ i : Int, 0 ≤ i ∧ i < mi a 4 ∧ mi (a + 1) i = b ∧ mi (a + 2) i < t + e ∧ c < mi (a + 3) i + e := by
  unfold clash
  constructor
  · rintro ⟨s, h1, h2, h3, h4⟩
    obtain ⟨i, i0, i1, rfl⟩ := (sL_mem ho).mp h1
    exact ⟨i, i0, i1, h2, h3, h4⟩
  · rintro ⟨i, i0, i1, h2, h3, h4⟩
    exact ⟨sF mi a i, (sL_mem ho).mpr ⟨i, i0, i1, rfl⟩, h2, h3, h4⟩
theorem covI_sL {mi : aM} {a : Nat} (k : Int) : covI mi a k (mi a 4).toNat = cov (sL mi a) k := covI_lst mi a k _
theorem s_X6_examine {mr : aR} (hR : Rok mr) {mi : aM} {a : Nat} (hs : isS a) (ho : sOk mi a) {b t : Int} (hb : 0 ≤ b ∧ b < 12) (hbo : bOk mi (28 + b.toNat)) (hnow : 0 ≤ mi 1 13 ∧ mi 1 13 ≤ 100000) (hpl : 1 ≤ mi 1 14 ∧ mi 1 14 ≤ 12) (h_t : 0 ≤ t ∧ t ≤ 150000) : SPg yX6_examine cX6_examine 7 (some .int) 3 [.ref 1, .ref a, iI b, iI t] mi mr (Pi mr (fun r m => r = exam (sL mi a) (mi 1 13) (mi 1 14) (mi (28 + b.toNat) 4) (mi (28 + b.toNat) 6) (mi (28 + b.toNat) 0) (mi (28 + b.toNat) 1) b t ∧ ∀ (x : Nat) (j : Int), x ≠ a + 4 → m x j = mi x j)) := by
  refine SPg.int rfl (by decide +kernel) (Nat.le_of_ble_eq_true rfl) ?_
  show AWm RX6 cX6_examine 7 3 _ 0 [(0, .ref 1), (1, .ref a), (2, iI b), (3, iI t)] [] mi mr
  obtain ⟨k0, k1, k2, k3, k4, k5, k6, k7, k8, k9, k10, k11⟩ := id hbo
  have hc1 := ho.1
  have hln := sL_len ho
  refine aw_aload_n (i := 0) (q := 0) dX6_examine_0 rfl rfl ?_
  refine aw_getR (r := 2) flX6_11 SH_1 (by decide) rfl (rk_1_0 hR) dX6_examine_1 ?_
  refine aw_iload_n (i := 2) (q := 2) dX6_examine_4 rfl rfl ?_
  refine aw_aald (r := 28 + (b).toNat) SH_2 (by decide) (by decide) ⟨by omega, by omega⟩ (hR.2.1 _ (by omega) (by omega)) dX6_examine_5 ?_
  refine aw_astore (i := 4) (lv' := [(0, .ref 1), (1, .ref a), (2, iI b), (3, iI t), (4, .ref (28 + (b).toNat))]) [1, 2, 3, 4, 0] dX6_examine_6 (by decide) rfl ?_
  refine aw_iload_n (i := 3) (q := 3) dX6_examine_8 rfl rfl ?_
  refine aw_aload (i := 4) (q := 4) dX6_examine_9 rfl ?_
  refine aw_getIk (x := mi (28 + (b).toNat) 0) 0 flX6_91 (SH_bell ⟨by omega, by omega⟩) ⟨by omega, by omega⟩ rfl rfl rfl dX6_examine_11 (fun r11 => ?_)
  refine aw_isub dX6_examine_14 ?_
  refine aw_istore (i := 5) (lv' := [(0, .ref 1), (1, .ref a), (2, iI b), (3, iI t), (4, .ref (28 + (b).toNat)), (5, iI (t - (mi (28 + (b).toNat) 0)))]) [1, 2, 3, 4, 5, 0] dX6_examine_15 (by decide) rfl ?_
  refine aw_iload_n (i := 3) (q := 3) dX6_examine_17 rfl rfl ?_
  refine aw_ldc (x := 100000) coX6_107 rfl dX6_examine_18 ?_
  refine aw_icmp_le (tgt := 26) dX6_examine_20 (by decide) (by first | assumption | omega) (by decide) (fun c20 => ?_) (fun c20 => ?_)
  · refine aw_aload (i := 4) (q := 4) dX6_examine_26 rfl ?_
    refine aw_getIk (x := mi (28 + (b).toNat) 6) 6 flX6_162 (SH_bell ⟨by omega, by omega⟩) ⟨by omega, by omega⟩ rfl rfl rfl dX6_examine_28 (fun r28 => ?_)
    refine aw_if_eq (tgt := 37) dX6_examine_31 (by decide) (by first | assumption | omega) (fun c31 => ?_) (fun c31 => ?_)
    · refine aw_iload (i := 5) (q := 5) dX6_examine_37 rfl ?_
      refine aw_aload_n (i := 0) (q := 0) dX6_examine_39 rfl rfl ?_
      refine aw_getIk (x := mi 1 13) 13 flX6_73 SH_1 (by decide) rfl rfl rfl dX6_examine_40 (fun r40 => ?_)
      refine aw_icmp_ge (tgt := 49) dX6_examine_43 (by decide) (by first | assumption | omega) (by first | assumption | omega) (fun c43 => ?_) (fun c43 => ?_)
      · refine aw_aload_n (i := 1) (q := 1) dX6_examine_49 rfl rfl ?_
        refine aw_cVp (As := []) (st := []) clX6_166 (s_X4_isFull hR hs) (isS_SH hs).1 rfl (isS_ok hs).1 rfl rfl (Nat.le_of_ble_eq_true rfl) (by decide) (by decide) (Nat.le_refl _) (Nat.le_refl _) dX6_examine_50 (fun v50 hv50 => ?_)
        refine aw_if_eq (tgt := 59) dX6_examine_53 (by decide) (by first | assumption | omega) (fun c53 => ?_) (fun c53 => ?_)
        · refine aw_aload_n (i := 1) (q := 1) dX6_examine_59 rfl rfl ?_
          refine aw_iload (i := 5) (q := 5) dX6_examine_60 rfl ?_
          refine aw_sipush (x := 150) dX6_examine_62 rfl ?_
          refine aw_isub dX6_examine_65 ?_
          refine aw_cVp (As := [iI ((t - (mi (28 + (b).toNat) 0)) - 150)]) (st := []) clX6_323 (s_X4_rankOf hR hs ho (by omega)) (isS_SH hs).1 rfl (isS_ok hs).1 rfl rfl (Nat.le_of_ble_eq_true rfl) (by decide) (by decide) (Nat.le_refl _) (Nat.le_refl _) dX6_examine_66 (fun f hf => ?_)
          refine aw_istore (i := 6) (lv' := [(0, .ref 1), (1, .ref a), (2, iI b), (3, iI t), (4, .ref (28 + (b).toNat)), (5, iI (t - (mi (28 + (b).toNat) 0))), (6, iI f)]) [1, 2, 3, 4, 5, 6, 0] dX6_examine_69 (by decide) rfl ?_
          refine aw_iload (i := 5) (q := 5) dX6_examine_71 rfl ?_
          refine aw_aload (i := 4) (q := 4) dX6_examine_73 rfl ?_
          refine aw_getIk (x := mi (28 + (b).toNat) 4) 4 flX6_310 (SH_bell ⟨by omega, by omega⟩) ⟨by omega, by omega⟩ rfl rfl rfl dX6_examine_75 (fun r75 => ?_)
          refine aw_icmp_lt (tgt := 99) dX6_examine_78 (by decide) (by first | assumption | omega) (by first | assumption | omega) (fun c78 => ?_) (fun c78 => ?_)
          · refine aw_bipush (x := -7) dX6_examine_99 rfl ?_
            exact aw_iret ⟨_, rfl, rfl, rfl, by unfold exam; rw [pick_neg (by omega), pick_neg (by omega), pick_neg (by omega), pick_neg (by omega),  pick_pos (by first | exact Or.inl (by omega) | exact Or.inr ((clash_idx ho).mpr (by rcases hv93 with ⟨-, i, q1, q2, q3, q4, q5⟩ | ⟨q, -⟩; (exact ⟨i, by omega, q2, q4, q3, q5⟩); (exact absurd q (by omega)))))], fun _ _ _ => rfl⟩ (Nat.le_refl _) (Nat.le_refl _) dX6_examine_101
          · refine aw_aload_n (i := 1) (q := 1) dX6_examine_81 rfl rfl ?_
            refine aw_iload (i := 6) (q := 6) dX6_examine_82 rfl ?_
            refine aw_iload_n (i := 2) (q := 2) dX6_examine_84 rfl rfl ?_
            refine aw_iload (i := 5) (q := 5) dX6_examine_85 rfl ?_
            refine aw_iload_n (i := 3) (q := 3) dX6_examine_87 rfl rfl ?_
            refine aw_aload (i := 4) (q := 4) dX6_examine_88 rfl ?_
            refine aw_getIk (x := mi (28 + (b).toNat) 1) 1 flX6_94 (SH_bell ⟨by omega, by omega⟩) ⟨by omega, by omega⟩ rfl rfl rfl dX6_examine_90 (fun r90 => ?_)
            refine aw_cVp (As := [iI f, iI b, iI (t - (mi (28 + (b).toNat) 0)), iI t, iI (mi (28 + (b).toNat) 1)]) (st := []) clX6_326 (s_X4_clashes hR hs ho hf.1 (by omega) (by omega) (by omega) (by omega)) (isS_SH hs).1 rfl (isS_ok hs).1 rfl rfl (Nat.le_of_ble_eq_true rfl) (by decide) (by decide) (Nat.le_refl _) (Nat.le_refl _) dX6_examine_93 (fun v93 hv93 => ?_)
            refine aw_if_eq (tgt := 102) dX6_examine_96 (by decide) (by first | assumption | omega) (fun c96 => ?_) (fun c96 => ?_)
            · have hncl : ¬ clash (sL mi a) b (t - mi (28 + b.toNat) 0) t (mi (28 + b.toNat) 1) := by
                intro q
                obtain ⟨i, q0, q1, q2, q3, q4⟩ := (clash_idx ho).mp q
                rcases hv93 with ⟨q, -⟩ | ⟨-, q⟩
                · omega
                · by_cases e : i < f
                  · have := hf.2.1 i q0 e; have := ho.2.1 i q0 q1; omega
                  · exact q i (by omega) q1 ⟨q3, q2, q4⟩
              refine aw_aload_n (i := 1) (q := 1) dX6_examine_102 rfl rfl ?_
              refine aw_iload (i := 6) (q := 6) dX6_examine_103 rfl ?_
              refine aw_iload (i := 5) (q := 5) dX6_examine_105 rfl ?_
              refine aw_iload_n (i := 3) (q := 3) dX6_examine_107 rfl rfl ?_
              refine aw_aload_n (i := 0) (q := 0) dX6_examine_108 rfl rfl ?_
              refine aw_getIk (x := mi 1 14) 14 flX6_76 SH_1 (by decide) rfl rfl rfl dX6_examine_109 (fun r109 => ?_)
              refine aw_cVi (As := [iI f, iI (t - (mi (28 + (b).toNat) 0)), iI t, iI (mi 1 14)]) (st := []) clX6_330 (s_X4_overloads hR hs ho hf.1 (by omega) (by omega) (by omega) (fun i x y => by have := hf.2.1 i x y; have := ho.2.1 i x (by omega); omega)) (isS_SH hs).1 rfl (isS_ok hs).1 rfl rfl (Nat.le_of_ble_eq_true rfl) (by decide) (by decide) (Nat.le_refl _) (Nat.le_refl _) dX6_examine_112 (fun v112 m1 hv112 => ?_)
              refine aw_if_eq (tgt := 123) dX6_examine_115 (by decide) (by first | assumption | omega) (fun c115 => ?_) (fun c115 => ?_)
              · refine aw_iconst dX6_examine_123 ?_
                exact aw_iret ⟨_, rfl, rfl, rfl, by unfold exam; rw [pick_neg (by omega), pick_neg (by omega), pick_neg (by omega), pick_neg (by omega),  pick_neg (fun q => by rcases q with q | q; (omega); (exact hncl q)), pick_neg (fun q => by obtain ⟨k, q1, q2, q3⟩ := q; rcases hv112.1 with ⟨q, -⟩ | ⟨-, q⟩; (omega); (have := q k q1 q2; rw [covI_sL] at this; omega))], hv112.2⟩ (Nat.le_refl _) (Nat.le_refl _) dX6_examine_124
              · refine aw_bipush (x := -8) dX6_examine_118 rfl ?_
                refine aw_goto (tgt := 124) dX6_examine_120 (by decide) ?_
                exact aw_iret ⟨_, rfl, rfl, rfl, by unfold exam; rw [pick_neg (by omega), pick_neg (by omega), pick_neg (by omega), pick_neg (by omega),  pick_neg (fun q => by rcases q with q | q; (omega); (exact hncl q)), pick_pos (by rcases hv112.1 with ⟨-, k, q1, q2, q3⟩ | ⟨q, -⟩; (exact ⟨k, q1, q2, by rw [← covI_sL]; exact q3⟩); (exact absurd q (by omega)))], hv112.2⟩ (Nat.le_refl _) (Nat.le_refl _) dX6_examine_124
            · refine aw_bipush (x := -7) dX6_examine_99 rfl ?_
              exact aw_iret ⟨_, rfl, rfl, rfl, by unfold exam; rw [pick_neg (by omega), pick_neg (by omega), pick_neg (by omega), pick_neg (by omega),  pick_pos (by first | exact Or.inl (by omega) | exact Or.inr ((clash_idx ho).mpr (by rcases hv93 with ⟨-, i, q1, q2, q3, q4, q5⟩ | ⟨q, -⟩; (exact ⟨i, by omega, q2, q4, q3, q5⟩); (exact absurd q (by omega)))))], fun _ _ _ => rfl⟩ (Nat.le_refl _) (Nat.le_refl _) dX6_examine_101
        · refine aw_bipush (x := -4) dX6_examine_56 rfl ?_
          exact aw_iret ⟨_, rfl, rfl, rfl, by unfold exam; rw [pick_neg (by omega), pick_neg (by omega), pick_neg (by omega), pick_pos (by omega)], fun _ _ _ => rfl⟩ (Nat.le_refl _) (Nat.le_refl _) dX6_examine_58
      · refine aw_bipush (x := -5) dX6_examine_46 rfl ?_
        exact aw_iret ⟨_, rfl, rfl, rfl, by unfold exam; rw [pick_neg (by omega), pick_neg (by omega), pick_pos (by omega)], fun _ _ _ => rfl⟩ (Nat.le_refl _) (Nat.le_refl _) dX6_examine_48
    · refine aw_bipush (x := -6) dX6_examine_34 rfl ?_
      exact aw_iret ⟨_, rfl, rfl, rfl, by unfold exam; rw [pick_neg (by omega), pick_pos (by omega)], fun _ _ _ => rfl⟩ (Nat.le_refl _) (Nat.le_refl _) dX6_examine_36
  · refine aw_bipush (x := -3) dX6_examine_23 rfl ?_
    exact aw_iret ⟨_, rfl, rfl, rfl, by unfold exam; rw [pick_pos (by omega)], fun _ _ _ => rfl⟩ (Nat.le_refl _) (Nat.le_refl _) dX6_examine_25
