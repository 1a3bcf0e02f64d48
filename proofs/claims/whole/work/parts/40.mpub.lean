-- part 40: the model: scheduleStroke, cancelStroke, earliestStroke, play, weave, nextStroke (printed by wip/whole/gen/p40.py)
theorem t_scheduleStroke {mr : aR} (hR : Rok mr) {mi : aM} {b t : Int} (h_b : -2147483648 ≤ b ∧ b ≤ 2147483647) (h_t : -2147483648 ≤ t ∧ t ≤ 2147483647) (hB : mB mi) (ho : mOk mi) (hpl : 1 ≤ mi 58 7 ∧ mi 58 7 ≤ 12) : AWm RX7 cX7_scheduleStroke 4 4 (Pi mr (fun r m => mOk m ∧ frM mi m ∧ ((¬ (0 ≤ b ∧ b < mi 58 6) ∧ r = -2 ∧ mL m = mL mi) ∨ ((0 ≤ b ∧ b < mi 58 6) ∧ ((eM mi (mL mi) b t ≠ 0 ∧ r = eM mi (mL mi) b t ∧ mL m = mL mi) ∨ (eM mi (mL mi) b t = 0 ∧ r = t - mi 59 b ∧ (mL m).Perm ((b, t - mi 59 b, t) :: mL mi))))))) 5 [(0, .ref 58), (1, iI b), (2, iI t)] [] mi mr := by
  have hn := hB.1
  have hnw := hB.2.1
  refine aw_aload_n (i := 0) (q := 0) dX7_scheduleStroke_5 rfl rfl ?_
  refine aw_iload_n (i := 1) (q := 1) dX7_scheduleStroke_6 rfl rfl ?_
  refine aw_cVp (As := [iI b]) (st := []) clX7_149 (s_X7_isBell hR (by omega) (by first | omega | (rw [aup_k (a := 58) (x := 58) (j := 6) (by decide)]; omega))) SH_58 rfl (by decide) rfl rfl (Nat.le_of_ble_eq_true rfl) (by decide) (by decide) (Nat.le_refl _) (Nat.le_refl _) dX7_scheduleStroke_7 (fun v7 hv7 => ?_)
  try rw [aup_k (a := 58) (x := 58) (j := 6) (by decide)] at hv7
  refine aw_if_ne (tgt := 16) dX7_scheduleStroke_10 (by decide) (by first | assumption | omega) (fun c10 => ?_) (fun c10 => ?_)
  · refine aw_aload_n (i := 0) (q := 0) dX7_scheduleStroke_16 rfl rfl ?_
    refine aw_iload_n (i := 1) (q := 1) dX7_scheduleStroke_17 rfl rfl ?_
    refine aw_iload_n (i := 2) (q := 2) dX7_scheduleStroke_18 rfl rfl ?_
    refine aw_i2l dX7_scheduleStroke_19 (by first | assumption | omega) ?_
    refine aw_cVi (As := [iI b, lL t]) (st := []) clX7_174 (s_X7_refuses (mi := mi) hR hB ho hpl (by omega) (by omega)) SH_58 rfl (by decide) rfl rfl (Nat.le_of_ble_eq_true rfl) (by decide) (by decide) (Nat.le_refl _) (Nat.le_refl _) dX7_scheduleStroke_20 (fun v20 m1 hv20 => ?_)
    have hx9 : v20 = eM mi (mL mi) b t := hv20.1
    have hxr := eM_rng mi (mL mi) b t
    have hf1 := hv20.2
    have e18 : m1 58 18 = mi 58 18 := hf1 _ _ (by decide)
    have eL1 : mL m1 = mL mi := mL_congr (fun j => ⟨hf1 _ _ (by decide), hf1 _ _ (by decide), hf1 _ _ (by decide)⟩) e18
    have ho1 := mOk_congr (fun j => ⟨hf1 _ _ (by decide), hf1 _ _ (by decide), hf1 _ _ (by decide)⟩) e18 ho
    have e59 : m1 59 b = mi 59 b := hf1 _ _ (by decide)
    refine aw_istore_n (i := 3) (lv' := [(0, .ref 58), (1, iI b), (2, iI t), (3, iI v20)]) [1, 2, 3, 0] dX7_scheduleStroke_23 rfl (by decide) rfl ?_
    refine aw_iload_n (i := 3) (q := 3) dX7_scheduleStroke_24 rfl rfl ?_
    refine aw_if_eq (tgt := 30) dX7_scheduleStroke_25 (by decide) (by first | assumption | omega) (fun c25 => ?_) (fun c25 => ?_)
    · have hz0 : eM mi (mL mi) b t = 0 := by omega
      have ht9 := exam_0.mp hz0
      have hl300 := ht9.2.2.2.1
      have hln := mL_len ho
      obtain ⟨k59, k60, -⟩ := hB.2.2 b (by omega) (by omega)
      refine aw_aload_n (i := 0) (q := 0) dX7_scheduleStroke_30 rfl rfl ?_
      refine aw_iload_n (i := 1) (q := 1) dX7_scheduleStroke_31 rfl rfl ?_
      refine aw_iload_n (i := 2) (q := 2) dX7_scheduleStroke_32 rfl rfl ?_
      refine aw_cVv (As := [iI b, iI t]) (st := []) clX7_178 (s_X7_schedules (mi := m1) hR ho1 (by omega) (by omega) (by omega) (by omega)) SH_58 rfl (by decide) rfl rfl (Nat.le_of_ble_eq_true rfl) (by decide) (by decide) (Nat.le_refl _) (Nat.le_refl _) dX7_scheduleStroke_33 (fun m2 hm2 => ?_)
      have hm29 : m2 59 b = mi 59 b := by rw [hm2, mAdd_o (by omega)]; exact e59
      refine aw_iload_n (i := 2) (q := 2) dX7_scheduleStroke_36 rfl rfl ?_
      refine aw_aload_n (i := 0) (q := 0) dX7_scheduleStroke_37 rfl rfl ?_
      refine aw_getR (r := 59) flX7_13 SH_58 (by decide) rfl (rk_58_1 hR) dX7_scheduleStroke_38 ?_
      refine aw_iload_n (i := 1) (q := 1) dX7_scheduleStroke_41 rfl rfl ?_
      refine aw_ialdv (x := m2 59 b) SH_59 (by decide) ⟨by omega, by omega⟩ rfl dX7_scheduleStroke_42 (fun r42 => ?_)
      refine aw_isub dX7_scheduleStroke_43 ?_
      exact aw_iret ⟨_, rfl, rfl, rfl, (by rw [hm2]; exact mOk_Add ho1 (by omega) (by omega) (by omega) (by omega)), (fun x j a c => by rw [hm2, mAdd_o ⟨by omega, c⟩]; exact hf1 x j (by omega)), Or.inr ⟨⟨by omega, by omega⟩, Or.inr ⟨hz0, by omega, by rw [hm2]; have e := mL_Add ho1 b t; rw [e59, eL1] at e; exact e⟩⟩⟩ (Nat.le_refl _) (Nat.le_refl _) dX7_scheduleStroke_44
    · refine aw_iload_n (i := 3) (q := 3) dX7_scheduleStroke_28 rfl rfl ?_
      exact aw_iret ⟨_, rfl, rfl, rfl, ho1, (fun x j a c => hf1 x j (by omega)), Or.inr ⟨⟨by omega, by omega⟩, Or.inl ⟨by omega, hx9, eL1⟩⟩⟩ (Nat.le_refl _) (Nat.le_refl _) dX7_scheduleStroke_29
  · refine aw_bipush (x := -2) dX7_scheduleStroke_13 rfl ?_
    exact aw_iret ⟨_, rfl, rfl, rfl, ho, (fun _ _ _ _ => rfl), Or.inl ⟨by omega, rfl, rfl⟩⟩ (Nat.le_refl _) (Nat.le_refl _) dX7_scheduleStroke_15
theorem s_X7_scheduleStroke {mr : aR} (hR : Rok mr) {mi : aM} {b t : Int} (h_b : -2147483648 ≤ b ∧ b ≤ 2147483647) (h_t : -2147483648 ≤ t ∧ t ≤ 2147483647) (hB : mB (aup mi 58 0 0)) (ho : mOk (aup mi 58 0 0)) (hpl : 1 ≤ (aup mi 58 0 0) 58 7 ∧ (aup mi 58 0 0) 58 7 ≤ 12) : SPg yX7_scheduleStroke cX7_scheduleStroke 4 (some .int) 4 [.ref 58, iI b, iI t] mi mr (Pi mr (fun r m => mOk m ∧ frM (aup mi 58 0 0) m ∧ ((¬ (0 ≤ b ∧ b < (aup mi 58 0 0) 58 6) ∧ r = -2 ∧ mL m = mL (aup mi 58 0 0)) ∨ ((0 ≤ b ∧ b < (aup mi 58 0 0) 58 6) ∧ ((eM (aup mi 58 0 0) (mL (aup mi 58 0 0)) b t ≠ 0 ∧ r = eM (aup mi 58 0 0) (mL (aup mi 58 0 0)) b t ∧ mL m = mL (aup mi 58 0 0)) ∨ (eM (aup mi 58 0 0) (mL (aup mi 58 0 0)) b t = 0 ∧ r = t - (aup mi 58 0 0) 59 b ∧ (mL m).Perm ((b, t - (aup mi 58 0 0) 59 b, t) :: mL (aup mi 58 0 0)))))))) := by
  refine SPg.int rfl (by decide +kernel) (Nat.le_of_ble_eq_true rfl) ?_
  show AWm RX7 cX7_scheduleStroke 4 4 _ 0 [(0, .ref 58), (1, iI b), (2, iI t)] [] mi mr
  refine aw_aload_n (i := 0) (q := 0) dX7_scheduleStroke_0 rfl rfl ?_
  refine aw_iconst dX7_scheduleStroke_1 ?_
  refine aw_putIk 0 flX7_1 SH_58 (by decide) rfl rfl rfl (by decide) dX7_scheduleStroke_2 ?_
  exact t_scheduleStroke (mi := aup mi 58 0 0) hR h_b h_t hB ho hpl
theorem t_cancelStroke {mr : aR} (hR : Rok mr) {mi : aM} {b t : Int} (h_b : -2147483648 ≤ b ∧ b ≤ 2147483647) (h_t : -2147483648 ≤ t ∧ t ≤ 2147483647) (hB : mB mi) (ho : mOk mi) : AWm RX7 cX7_cancelStroke 4 3 (Pi mr (fun r m => mOk m ∧ frM mi m ∧ ((¬ (0 ≤ b ∧ b < mi 58 6) ∧ r = -2 ∧ mL m = mL mi) ∨ ((0 ≤ b ∧ b < mi 58 6) ∧ (∀ s ∈ mL mi, ¬ (s.1 = b ∧ s.2.2 = t)) ∧ r = -2 ∧ mL m = mL mi) ∨ ((0 ≤ b ∧ b < mi 58 6) ∧ ∃ s ∈ mL mi, s.1 = b ∧ s.2.2 = t ∧ ((s.2.1 ≤ mi 58 9 ∧ r = -5 ∧ mL m = mL mi) ∨ (mi 58 9 < s.2.1 ∧ r = ((mL mi).length : Int) - 1 ∧ (mL mi).Perm (s :: mL m))))))) 5 [(0, .ref 58), (1, iI b), (2, iI t)] [] mi mr := by
  have hn := hB.1
  have hnw := hB.2.1
  have hc1 := ho.1
  refine aw_aload_n (i := 0) (q := 0) dX7_cancelStroke_5 rfl rfl ?_
  refine aw_iload_n (i := 1) (q := 1) dX7_cancelStroke_6 rfl rfl ?_
  refine aw_cVp (As := [iI b]) (st := []) clX7_149 (s_X7_isBell hR (by omega) (by first | omega | (rw [aup_k (a := 58) (x := 58) (j := 6) (by decide)]; omega))) SH_58 rfl (by decide) rfl rfl (Nat.le_of_ble_eq_true rfl) (by decide) (by decide) (Nat.le_refl _) (Nat.le_refl _) dX7_cancelStroke_7 (fun v7 hv7 => ?_)
  try rw [aup_k (a := 58) (x := 58) (j := 6) (by decide)] at hv7
  refine aw_if_eq (tgt := 22) dX7_cancelStroke_10 (by decide) (by first | assumption | omega) (fun c10 => ?_) (fun c10 => ?_)
  · refine aw_iconst dX7_cancelStroke_22 ?_
    refine aw_istore_n (i := 3) (lv' := [(0, .ref 58), (1, iI b), (2, iI t), (3, iI (-1))]) [1, 2, 3, 0] dX7_cancelStroke_23 rfl (by decide) rfl ?_
    refine aw_iload_n (i := 3) (q := 3) dX7_cancelStroke_24 rfl rfl ?_
    refine aw_iconst dX7_cancelStroke_25 ?_
    refine aw_icmp_ne (tgt := 32) dX7_cancelStroke_26 (by decide) (by decide) (by decide) (fun c26 => ?_) (fun c26 => ?_)
    · exact absurd c26 (by decide)
    · refine aw_bipush (x := -2) dX7_cancelStroke_29 rfl ?_
      exact aw_iret ⟨_, rfl, rfl, rfl, ho, (fun _ _ _ _ => rfl), (by first | exact Or.inl ⟨by omega, rfl, rfl⟩ | exact Or.inr (Or.inl ⟨by omega, fun s hs q => by obtain ⟨i, i0, i1, rfl⟩ := (mL_mem ho).mp hs; rcases hk with hk | hk; (have a1 := hk.1; omega); (exact hk.2 i i0 i1 q), rfl, rfl⟩))⟩ (Nat.le_refl _) (Nat.le_refl _) dX7_cancelStroke_31
  · refine aw_aload_n (i := 0) (q := 0) dX7_cancelStroke_13 rfl rfl ?_
    refine aw_iload_n (i := 1) (q := 1) dX7_cancelStroke_14 rfl rfl ?_
    refine aw_iload_n (i := 2) (q := 2) dX7_cancelStroke_15 rfl rfl ?_
    refine aw_cVp (As := [iI b, iI t]) (st := []) clX7_182 (s_X7_strokeOf hR ho (by omega) (by omega)) SH_58 rfl (by decide) rfl rfl (Nat.le_of_ble_eq_true rfl) (by decide) (by decide) (Nat.le_refl _) (Nat.le_refl _) dX7_cancelStroke_16 (fun k hk => ?_)
    have hkr : -1 ≤ k ∧ k < 300 := by rcases hk with q | q; (have q1 := q.1; have q2 := q.2.1; omega); (have q1 := q.1; omega)
    refine aw_goto (tgt := 23) dX7_cancelStroke_19 (by decide) ?_
    refine aw_istore_n (i := 3) (lv' := [(0, .ref 58), (1, iI b), (2, iI t), (3, iI k)]) [1, 2, 3, 0] dX7_cancelStroke_23 rfl (by decide) rfl ?_
    refine aw_iload_n (i := 3) (q := 3) dX7_cancelStroke_24 rfl rfl ?_
    refine aw_iconst dX7_cancelStroke_25 ?_
    refine aw_icmp_ne (tgt := 32) dX7_cancelStroke_26 (by decide) (by first | assumption | omega) (by decide) (fun c26 => ?_) (fun c26 => ?_)
    · have hk9 : 0 ≤ k ∧ k < mi 58 18 ∧ mi 67 k = b ∧ mi 68 k = t := by rcases hk with q | q; (exact q); (have q1 := q.1; omega)
      have hz9 := ho.2 k hk9.1 hk9.2.1
      refine aw_aload_n (i := 0) (q := 0) dX7_cancelStroke_32 rfl rfl ?_
      refine aw_getR (r := 69) flX7_45 SH_58 (by decide) rfl (rk_58_16 hR) dX7_cancelStroke_33 ?_
      refine aw_iload_n (i := 3) (q := 3) dX7_cancelStroke_36 rfl rfl ?_
      refine aw_ialdv (x := mi 69 k) SH_69 (by decide) ⟨by omega, by omega⟩ rfl dX7_cancelStroke_37 (fun r37 => ?_)
      refine aw_aload_n (i := 0) (q := 0) dX7_cancelStroke_38 rfl rfl ?_
      refine aw_getIk (x := mi 58 9) 9 flX7_158 SH_58 (by decide) rfl rfl rfl dX7_cancelStroke_39 (fun r39 => ?_)
      refine aw_icmp_gt (tgt := 48) dX7_cancelStroke_42 (by decide) (by first | assumption | omega) (by first | assumption | omega) (fun c42 => ?_) (fun c42 => ?_)
      · refine aw_aload_n (i := 0) (q := 0) dX7_cancelStroke_48 rfl rfl ?_
        refine aw_iload_n (i := 3) (q := 3) dX7_cancelStroke_49 rfl rfl ?_
        refine aw_cVv (As := [iI k]) (st := []) clX7_186 (s_X7_removes hR ho ⟨by omega, by omega⟩) SH_58 rfl (by decide) rfl rfl (Nat.le_of_ble_eq_true rfl) (by decide) (by decide) (Nat.le_refl _) (Nat.le_refl _) dX7_cancelStroke_50 (fun m1 hm1 => ?_)
        have e18 : m1 58 18 = mi 58 18 - 1 := by rw [hm1, mRem_n]
        refine aw_aload_n (i := 0) (q := 0) dX7_cancelStroke_53 rfl rfl ?_
        refine aw_getIk (x := m1 58 18) 18 flX7_171 SH_58 (by decide) rfl rfl rfl dX7_cancelStroke_54 (fun r54 => ?_)
        exact aw_iret ⟨_, rfl, rfl, rfl, (by rw [hm1]; exact mOk_Rem ho ⟨hk9.1, hk9.2.1⟩), (fun x j a c => by rw [hm1, mRem_o ⟨by omega, c⟩]), Or.inr (Or.inr ⟨by omega, mS mi k, (mL_mem ho).mpr ⟨k, hk9.1, hk9.2.1, rfl⟩, hk9.2.2.1, hk9.2.2.2, Or.inr ⟨by show mi 58 9 < mi 69 k; omega, by have := mL_len ho; omega, by rw [hm1]; exact mL_Rem ho ⟨hk9.1, hk9.2.1⟩⟩⟩)⟩ (Nat.le_refl _) (Nat.le_refl _) dX7_cancelStroke_57
      · refine aw_bipush (x := -5) dX7_cancelStroke_45 rfl ?_
        exact aw_iret ⟨_, rfl, rfl, rfl, ho, (fun _ _ _ _ => rfl), Or.inr (Or.inr ⟨by omega, mS mi k, (mL_mem ho).mpr ⟨k, hk9.1, hk9.2.1, rfl⟩, hk9.2.2.1, hk9.2.2.2, Or.inl ⟨by show mi 69 k ≤ mi 58 9; omega, rfl, rfl⟩⟩)⟩ (Nat.le_refl _) (Nat.le_refl _) dX7_cancelStroke_47
    · refine aw_bipush (x := -2) dX7_cancelStroke_29 rfl ?_
      exact aw_iret ⟨_, rfl, rfl, rfl, ho, (fun _ _ _ _ => rfl), (by first | exact Or.inl ⟨by omega, rfl, rfl⟩ | exact Or.inr (Or.inl ⟨by omega, fun s hs q => by obtain ⟨i, i0, i1, rfl⟩ := (mL_mem ho).mp hs; rcases hk with hk | hk; (have a1 := hk.1; omega); (exact hk.2 i i0 i1 q), rfl, rfl⟩))⟩ (Nat.le_refl _) (Nat.le_refl _) dX7_cancelStroke_31
theorem s_X7_cancelStroke {mr : aR} (hR : Rok mr) {mi : aM} {b t : Int} (h_b : -2147483648 ≤ b ∧ b ≤ 2147483647) (h_t : -2147483648 ≤ t ∧ t ≤ 2147483647) (hB : mB (aup mi 58 0 0)) (ho : mOk (aup mi 58 0 0)) : SPg yX7_cancelStroke cX7_cancelStroke 4 (some .int) 3 [.ref 58, iI b, iI t] mi mr (Pi mr (fun r m => mOk m ∧ frM (aup mi 58 0 0) m ∧ ((¬ (0 ≤ b ∧ b < (aup mi 58 0 0) 58 6) ∧ r = -2 ∧ mL m = mL (aup mi 58 0 0)) ∨ ((0 ≤ b ∧ b < (aup mi 58 0 0) 58 6) ∧ (∀ s ∈ mL (aup mi 58 0 0), ¬ (s.1 = b ∧ s.2.2 = t)) ∧ r = -2 ∧ mL m = mL (aup mi 58 0 0)) ∨ ((0 ≤ b ∧ b < (aup mi 58 0 0) 58 6) ∧ ∃ s ∈ mL (aup mi 58 0 0), s.1 = b ∧ s.2.2 = t ∧ ((s.2.1 ≤ (aup mi 58 0 0) 58 9 ∧ r = -5 ∧ mL m = mL (aup mi 58 0 0)) ∨ ((aup mi 58 0 0) 58 9 < s.2.1 ∧ r = ((mL (aup mi 58 0 0)).length : Int) - 1 ∧ (mL (aup mi 58 0 0)).Perm (s :: mL m))))))) := by
  refine SPg.int rfl (by decide +kernel) (Nat.le_of_ble_eq_true rfl) ?_
  show AWm RX7 cX7_cancelStroke 4 3 _ 0 [(0, .ref 58), (1, iI b), (2, iI t)] [] mi mr
  refine aw_aload_n (i := 0) (q := 0) dX7_cancelStroke_0 rfl rfl ?_
  refine aw_iconst dX7_cancelStroke_1 ?_
  refine aw_putIk 0 flX7_1 SH_58 (by decide) rfl rfl rfl (by decide) dX7_cancelStroke_2 ?_
  exact t_cancelStroke (mi := aup mi 58 0 0) hR h_b h_t hB ho
theorem t_play {mr : aR} (hR : Rok mr) {mi : aM} {w T s : Int} (h_w : -2147483648 ≤ w ∧ w ≤ 2147483647) (h_T : -2147483648 ≤ T ∧ T ≤ 2147483647) (h_s : -2147483648 ≤ s ∧ s ≤ 2147483647) (hB : mB mi) (ho : mOk mi) (hpl : 1 ≤ mi 58 7 ∧ mi 58 7 ≤ 12) (hp : pM mi) : AWm RX7 cX7_play 4 5 (Pi mr (fun r m => mOk m ∧ frM mi m ∧ ((¬ (0 ≤ w ∧ w < 5) ∧ r = -2 ∧ mL m = mL mi) ∨ ((0 ≤ w ∧ w < 5) ∧ ((mi 73 w = 0 ∧ r = -9 ∧ mL m = mL mi) ∨ (mi 73 w ≠ 0 ∧ ((¬ ((0 ≤ T ∧ T ≤ 100000) ∧ (1 ≤ s ∧ s ≤ 200)) ∧ r = -3 ∧ mL m = mL mi) ∨ (((0 ≤ T ∧ T ≤ 100000) ∧ (1 ≤ s ∧ s ≤ 200)) ∧ (((plL (eM mi) (dM mi) (outL (fun k => mi 72 (100 * w + k)) (mi 58 6).toNat (T) s (mi 73 w).toNat 0) (mL mi)).1 ≠ 0 ∧ r = (plL (eM mi) (dM mi) (outL (fun k => mi 72 (100 * w + k)) (mi 58 6).toNat (T) s (mi 73 w).toNat 0) (mL mi)).1 ∧ mL m = mL mi) ∨ ((plL (eM mi) (dM mi) (outL (fun k => mi 72 (100 * w + k)) (mi 58 6).toNat (T) s (mi 73 w).toNat 0) (mL mi)).1 = 0 ∧ r = ((outL (fun k => mi 72 (100 * w + k)) (mi 58 6).toNat (T) s (mi 73 w).toNat 0).length : Int) ∧ ((plL (eM mi) (dM mi) (outL (fun k => mi 72 (100 * w + k)) (mi 58 6).toNat (T) s (mi 73 w).toNat 0) (mL mi)).2).Perm (mL m))))))))))) 5 [(0, .ref 58), (1, iI w), (2, iI T), (3, iI s)] [] mi mr := by
  refine aw_iload_n (i := 1) (q := 1) dX7_play_5 rfl rfl ?_
  refine aw_cSp (As := [iI w]) (st := []) clX7_252 (s_X7_isPattern hR (by omega)) rfl rfl (Nat.le_of_ble_eq_true rfl) (by decide) (by decide) (Nat.le_refl _) (Nat.le_refl _) dX7_play_6 (fun v6 hv6 => ?_)
  refine aw_if_ne (tgt := 15) dX7_play_9 (by decide) (by first | assumption | omega) (fun c9 => ?_) (fun c9 => ?_)
  · have hpw := (hp w (by omega) (by omega)).1
    refine aw_aload_n (i := 0) (q := 0) dX7_play_15 rfl rfl ?_
    refine aw_getR (r := 73) flX7_57 SH_58 (by decide) rfl (rk_58_21 hR) dX7_play_16 ?_
    refine aw_iload_n (i := 1) (q := 1) dX7_play_19 rfl rfl ?_
    refine aw_ialdv (x := mi 73 w) SH_73 (by decide) ⟨by omega, by omega⟩ rfl dX7_play_20 (fun r20 => ?_)
    refine aw_if_ne (tgt := 27) dX7_play_21 (by decide) (by first | assumption | omega) (fun c21 => ?_) (fun c21 => ?_)
    · refine aw_iload_n (i := 2) (q := 2) dX7_play_27 rfl rfl ?_
      refine aw_i2l dX7_play_28 (by first | assumption | omega) ?_
      refine aw_lconst (x := 0) dX7_play_29 rfl ?_
      refine aw_ldc2 (x := 100000) coX7_169 rfl dX7_play_30 ?_
      refine aw_cSp (As := [lL T, lL 0, lL 100000]) (st := []) clX7_135 (s_X7_isIn hR (by omega) (by omega) (by omega)) rfl rfl (Nat.le_of_ble_eq_true rfl) (by decide) (by decide) (Nat.le_refl _) (Nat.le_refl _) dX7_play_33 (fun v33 hv33 => ?_)
      refine aw_if_eq (tgt := 51) dX7_play_36 (by decide) (by first | assumption | omega) (fun c36 => ?_) (fun c36 => ?_)
      · refine aw_bipush (x := -3) dX7_play_51 rfl ?_
        exact aw_iret ⟨_, rfl, rfl, rfl, ho, (fun _ _ _ _ => rfl), Or.inr ⟨by omega, Or.inr ⟨by omega, Or.inl ⟨by omega, rfl, rfl⟩⟩⟩⟩ (Nat.le_refl _) (Nat.le_refl _) dX7_play_53
      · refine aw_iload_n (i := 3) (q := 3) dX7_play_39 rfl rfl ?_
        refine aw_i2l dX7_play_40 (by first | assumption | omega) ?_
        refine aw_lconst (x := 1) dX7_play_41 rfl ?_
        refine aw_ldc2 (x := 200) coX7_258 rfl dX7_play_42 ?_
        refine aw_cSp (As := [lL s, lL 1, lL 200]) (st := []) clX7_135 (s_X7_isIn hR (by omega) (by omega) (by omega)) rfl rfl (Nat.le_of_ble_eq_true rfl) (by decide) (by decide) (Nat.le_refl _) (Nat.le_refl _) dX7_play_45 (fun v45 hv45 => ?_)
        refine aw_if_ne (tgt := 54) dX7_play_48 (by decide) (by first | assumption | omega) (fun c48 => ?_) (fun c48 => ?_)
        · refine aw_aload_n (i := 0) (q := 0) dX7_play_54 rfl rfl ?_
          refine aw_iload_n (i := 1) (q := 1) dX7_play_55 rfl rfl ?_
          refine aw_iload_n (i := 2) (q := 2) dX7_play_56 rfl rfl ?_
          refine aw_iload_n (i := 3) (q := 3) dX7_play_57 rfl rfl ?_
          refine aw_cVi (As := [iI w, iI T, iI s]) (st := []) clX7_260 (s_X7_plays hR hB ho hpl hp ⟨by omega, by omega⟩ (by omega) (by omega)) SH_58 rfl (by decide) rfl rfl (Nat.le_of_ble_eq_true rfl) (by decide) (by decide) (Nat.le_refl _) (Nat.le_refl _) dX7_play_58 (fun v58 m1 hv58 => ?_)
          exact aw_iret ⟨_, rfl, rfl, rfl, hv58.1, hv58.2.1, Or.inr ⟨by omega, Or.inr ⟨by omega, Or.inr ⟨by omega, hv58.2.2⟩⟩⟩⟩ (Nat.le_refl _) (Nat.le_refl _) dX7_play_61
        · refine aw_bipush (x := -3) dX7_play_51 rfl ?_
          exact aw_iret ⟨_, rfl, rfl, rfl, ho, (fun _ _ _ _ => rfl), Or.inr ⟨by omega, Or.inr ⟨by omega, Or.inl ⟨by omega, rfl, rfl⟩⟩⟩⟩ (Nat.le_refl _) (Nat.le_refl _) dX7_play_53
    · refine aw_bipush (x := -9) dX7_play_24 rfl ?_
      exact aw_iret ⟨_, rfl, rfl, rfl, ho, (fun _ _ _ _ => rfl), Or.inr ⟨by omega, Or.inl ⟨by omega, rfl, rfl⟩⟩⟩ (Nat.le_refl _) (Nat.le_refl _) dX7_play_26
  · refine aw_bipush (x := -2) dX7_play_12 rfl ?_
    exact aw_iret ⟨_, rfl, rfl, rfl, ho, (fun _ _ _ _ => rfl), Or.inl ⟨by omega, rfl, rfl⟩⟩ (Nat.le_refl _) (Nat.le_refl _) dX7_play_14
theorem s_X7_play {mr : aR} (hR : Rok mr) {mi : aM} {w T s : Int} (h_w : -2147483648 ≤ w ∧ w ≤ 2147483647) (h_T : -2147483648 ≤ T ∧ T ≤ 2147483647) (h_s : -2147483648 ≤ s ∧ s ≤ 2147483647) (hB : mB (aup mi 58 0 0)) (ho : mOk (aup mi 58 0 0)) (hpl : 1 ≤ (aup mi 58 0 0) 58 7 ∧ (aup mi 58 0 0) 58 7 ≤ 12) (hp : pM (aup mi 58 0 0)) : SPg yX7_play cX7_play 4 (some .int) 5 [.ref 58, iI w, iI T, iI s] mi mr (Pi mr (fun r m => mOk m ∧ frM (aup mi 58 0 0) m ∧ ((¬ (0 ≤ w ∧ w < 5) ∧ r = -2 ∧ mL m = mL (aup mi 58 0 0)) ∨ ((0 ≤ w ∧ w < 5) ∧ (((aup mi 58 0 0) 73 w = 0 ∧ r = -9 ∧ mL m = mL (aup mi 58 0 0)) ∨ ((aup mi 58 0 0) 73 w ≠ 0 ∧ ((¬ ((0 ≤ T ∧ T ≤ 100000) ∧ (1 ≤ s ∧ s ≤ 200)) ∧ r = -3 ∧ mL m = mL (aup mi 58 0 0)) ∨ (((0 ≤ T ∧ T ≤ 100000) ∧ (1 ≤ s ∧ s ≤ 200)) ∧ (((plL (eM (aup mi 58 0 0)) (dM (aup mi 58 0 0)) (outL (fun k => (aup mi 58 0 0) 72 (100 * w + k)) ((aup mi 58 0 0) 58 6).toNat (T) s ((aup mi 58 0 0) 73 w).toNat 0) (mL (aup mi 58 0 0))).1 ≠ 0 ∧ r = (plL (eM (aup mi 58 0 0)) (dM (aup mi 58 0 0)) (outL (fun k => (aup mi 58 0 0) 72 (100 * w + k)) ((aup mi 58 0 0) 58 6).toNat (T) s ((aup mi 58 0 0) 73 w).toNat 0) (mL (aup mi 58 0 0))).1 ∧ mL m = mL (aup mi 58 0 0)) ∨ ((plL (eM (aup mi 58 0 0)) (dM (aup mi 58 0 0)) (outL (fun k => (aup mi 58 0 0) 72 (100 * w + k)) ((aup mi 58 0 0) 58 6).toNat (T) s ((aup mi 58 0 0) 73 w).toNat 0) (mL (aup mi 58 0 0))).1 = 0 ∧ r = ((outL (fun k => (aup mi 58 0 0) 72 (100 * w + k)) ((aup mi 58 0 0) 58 6).toNat (T) s ((aup mi 58 0 0) 73 w).toNat 0).length : Int) ∧ ((plL (eM (aup mi 58 0 0)) (dM (aup mi 58 0 0)) (outL (fun k => (aup mi 58 0 0) 72 (100 * w + k)) ((aup mi 58 0 0) 58 6).toNat (T) s ((aup mi 58 0 0) 73 w).toNat 0) (mL (aup mi 58 0 0))).2).Perm (mL m))))))))))) := by
  refine SPg.int rfl (by decide +kernel) (Nat.le_of_ble_eq_true rfl) ?_
  show AWm RX7 cX7_play 4 5 _ 0 [(0, .ref 58), (1, iI w), (2, iI T), (3, iI s)] [] mi mr
  refine aw_aload_n (i := 0) (q := 0) dX7_play_0 rfl rfl ?_
  refine aw_iconst dX7_play_1 ?_
  refine aw_putIk 0 flX7_1 SH_58 (by decide) rfl rfl rfl (by decide) dX7_play_2 ?_
  exact t_play (mi := aup mi 58 0 0) hR h_w h_T h_s hB ho hpl hp
theorem t_weave {mr : aR} (hR : Rok mr) {mi : aM} {w T s W : Int} (h_w : -2147483648 ≤ w ∧ w ≤ 2147483647) (h_T : -2147483648 ≤ T ∧ T ≤ 2147483647) (h_s : -2147483648 ≤ s ∧ s ≤ 2147483647) (h_W : -2147483648 ≤ W ∧ W ≤ 2147483647) (hB : mB mi) (ho : mOk mi) (hpl : 1 ≤ mi 58 7 ∧ mi 58 7 ≤ 12) (hp : pM mi) : AWm RX7 cX7_weave 5 6 (Pi mr (fun r m => mOk m ∧ frM mi m ∧ ((¬ (0 ≤ w ∧ w < 5) ∧ r = -2 ∧ mL m = mL mi) ∨ ((0 ≤ w ∧ w < 5) ∧ ((mi 73 w = 0 ∧ r = -9 ∧ mL m = mL mi) ∨ (mi 73 w ≠ 0 ∧ ((¬ ((0 ≤ T ∧ T ≤ 100000) ∧ (1 ≤ s ∧ s ≤ 200) ∧ (0 ≤ W ∧ W ≤ 500)) ∧ r = -3 ∧ mL m = mL mi) ∨ (((0 ≤ T ∧ T ≤ 100000) ∧ (1 ≤ s ∧ s ≤ 200) ∧ (0 ≤ W ∧ W ≤ 500)) ∧ ((r = -1 ∧ (∀ v : Int, 0 ≤ v → v ≤ W → okM mi w s (T + v) ≠ 0) ∧ mL m = mL mi) ∨ ((0 ≤ r ∧ r ≤ W) ∧ okM mi w s (T + r) = 0 ∧ (∀ v : Int, 0 ≤ v → v < r → okM mi w s (T + v) ≠ 0) ∧ ((plL (eM mi) (dM mi) (outL (fun k => mi 72 (100 * w + k)) (mi 58 6).toNat (T + r) s (mi 73 w).toNat 0) (mL mi)).2).Perm (mL m))))))))))) 5 [(0, .ref 58), (1, iI w), (2, iI T), (3, iI s), (4, iI W)] [] mi mr := by
  refine aw_iload_n (i := 1) (q := 1) dX7_weave_5 rfl rfl ?_
  refine aw_cSp (As := [iI w]) (st := []) clX7_252 (s_X7_isPattern hR (by omega)) rfl rfl (Nat.le_of_ble_eq_true rfl) (by decide) (by decide) (Nat.le_refl _) (Nat.le_refl _) dX7_weave_6 (fun v6 hv6 => ?_)
  refine aw_if_ne (tgt := 15) dX7_weave_9 (by decide) (by first | assumption | omega) (fun c9 => ?_) (fun c9 => ?_)
  · have hpw := (hp w (by omega) (by omega)).1
    refine aw_aload_n (i := 0) (q := 0) dX7_weave_15 rfl rfl ?_
    refine aw_getR (r := 73) flX7_57 SH_58 (by decide) rfl (rk_58_21 hR) dX7_weave_16 ?_
    refine aw_iload_n (i := 1) (q := 1) dX7_weave_19 rfl rfl ?_
    refine aw_ialdv (x := mi 73 w) SH_73 (by decide) ⟨by omega, by omega⟩ rfl dX7_weave_20 (fun r20 => ?_)
    refine aw_if_ne (tgt := 27) dX7_weave_21 (by decide) (by first | assumption | omega) (fun c21 => ?_) (fun c21 => ?_)
    · refine aw_iload_n (i := 2) (q := 2) dX7_weave_27 rfl rfl ?_
      refine aw_i2l dX7_weave_28 (by first | assumption | omega) ?_
      refine aw_lconst (x := 0) dX7_weave_29 rfl ?_
      refine aw_ldc2 (x := 100000) coX7_169 rfl dX7_weave_30 ?_
      refine aw_cSp (As := [lL T, lL 0, lL 100000]) (st := []) clX7_135 (s_X7_isIn hR (by omega) (by omega) (by omega)) rfl rfl (Nat.le_of_ble_eq_true rfl) (by decide) (by decide) (Nat.le_refl _) (Nat.le_refl _) dX7_weave_33 (fun v33 hv33 => ?_)
      refine aw_if_eq (tgt := 64) dX7_weave_36 (by decide) (by first | assumption | omega) (fun c36 => ?_) (fun c36 => ?_)
      · refine aw_bipush (x := -3) dX7_weave_64 rfl ?_
        exact aw_iret ⟨_, rfl, rfl, rfl, ho, (fun _ _ _ _ => rfl), Or.inr ⟨by omega, Or.inr ⟨by omega, Or.inl ⟨by omega, rfl, rfl⟩⟩⟩⟩ (Nat.le_refl _) (Nat.le_refl _) dX7_weave_66
      · refine aw_iload_n (i := 3) (q := 3) dX7_weave_39 rfl rfl ?_
        refine aw_i2l dX7_weave_40 (by first | assumption | omega) ?_
        refine aw_lconst (x := 1) dX7_weave_41 rfl ?_
        refine aw_ldc2 (x := 200) coX7_258 rfl dX7_weave_42 ?_
        refine aw_cSp (As := [lL s, lL 1, lL 200]) (st := []) clX7_135 (s_X7_isIn hR (by omega) (by omega) (by omega)) rfl rfl (Nat.le_of_ble_eq_true rfl) (by decide) (by decide) (Nat.le_refl _) (Nat.le_refl _) dX7_weave_45 (fun v45 hv45 => ?_)
        refine aw_if_eq (tgt := 64) dX7_weave_48 (by decide) (by first | assumption | omega) (fun c48 => ?_) (fun c48 => ?_)
        · refine aw_bipush (x := -3) dX7_weave_64 rfl ?_
          exact aw_iret ⟨_, rfl, rfl, rfl, ho, (fun _ _ _ _ => rfl), Or.inr ⟨by omega, Or.inr ⟨by omega, Or.inl ⟨by omega, rfl, rfl⟩⟩⟩⟩ (Nat.le_refl _) (Nat.le_refl _) dX7_weave_66
        · refine aw_iload (i := 4) (q := 4) dX7_weave_51 rfl ?_
          refine aw_i2l dX7_weave_53 (by first | assumption | omega) ?_
          refine aw_lconst (x := 0) dX7_weave_54 rfl ?_
          refine aw_ldc2 (x := 500) coX7_264 rfl dX7_weave_55 ?_
          refine aw_cSp (As := [lL W, lL 0, lL 500]) (st := []) clX7_135 (s_X7_isIn hR (by omega) (by omega) (by omega)) rfl rfl (Nat.le_of_ble_eq_true rfl) (by decide) (by decide) (Nat.le_refl _) (Nat.le_refl _) dX7_weave_58 (fun v58 hv58 => ?_)
          refine aw_if_ne (tgt := 67) dX7_weave_61 (by decide) (by first | assumption | omega) (fun c61 => ?_) (fun c61 => ?_)
          · refine aw_aload_n (i := 0) (q := 0) dX7_weave_67 rfl rfl ?_
            refine aw_iload_n (i := 1) (q := 1) dX7_weave_68 rfl rfl ?_
            refine aw_iload_n (i := 2) (q := 2) dX7_weave_69 rfl rfl ?_
            refine aw_iload_n (i := 3) (q := 3) dX7_weave_70 rfl rfl ?_
            refine aw_iload (i := 4) (q := 4) dX7_weave_71 rfl ?_
            refine aw_cVi (As := [iI w, iI T, iI s, iI W]) (st := []) clX7_266 (s_X7_weaves hR hB ho hpl hp ⟨by omega, by omega⟩ (by omega) (by omega) (by omega)) SH_58 rfl (by decide) rfl rfl (Nat.le_of_ble_eq_true rfl) (by decide) (by decide) (Nat.le_refl _) (Nat.le_refl _) dX7_weave_73 (fun v58 m1 hv58 => ?_)
            exact aw_iret ⟨_, rfl, rfl, rfl, hv58.1, hv58.2.1, Or.inr ⟨by omega, Or.inr ⟨by omega, Or.inr ⟨by omega, hv58.2.2⟩⟩⟩⟩ (Nat.le_refl _) (Nat.le_refl _) dX7_weave_76
          · refine aw_bipush (x := -3) dX7_weave_64 rfl ?_
            exact aw_iret ⟨_, rfl, rfl, rfl, ho, (fun _ _ _ _ => rfl), Or.inr ⟨by omega, Or.inr ⟨by omega, Or.inl ⟨by omega, rfl, rfl⟩⟩⟩⟩ (Nat.le_refl _) (Nat.le_refl _) dX7_weave_66
    · refine aw_bipush (x := -9) dX7_weave_24 rfl ?_
      exact aw_iret ⟨_, rfl, rfl, rfl, ho, (fun _ _ _ _ => rfl), Or.inr ⟨by omega, Or.inl ⟨by omega, rfl, rfl⟩⟩⟩ (Nat.le_refl _) (Nat.le_refl _) dX7_weave_26
  · refine aw_bipush (x := -2) dX7_weave_12 rfl ?_
    exact aw_iret ⟨_, rfl, rfl, rfl, ho, (fun _ _ _ _ => rfl), Or.inl ⟨by omega, rfl, rfl⟩⟩ (Nat.le_refl _) (Nat.le_refl _) dX7_weave_14
theorem s_X7_weave {mr : aR} (hR : Rok mr) {mi : aM} {w T s W : Int} (h_w : -2147483648 ≤ w ∧ w ≤ 2147483647) (h_T : -2147483648 ≤ T ∧ T ≤ 2147483647) (h_s : -2147483648 ≤ s ∧ s ≤ 2147483647) (h_W : -2147483648 ≤ W ∧ W ≤ 2147483647) (hB : mB (aup mi 58 0 0)) (ho : mOk (aup mi 58 0 0)) (hpl : 1 ≤ (aup mi 58 0 0) 58 7 ∧ (aup mi 58 0 0) 58 7 ≤ 12) (hp : pM (aup mi 58 0 0)) : SPg yX7_weave cX7_weave 5 (some .int) 6 [.ref 58, iI w, iI T, iI s, iI W] mi mr (Pi mr (fun r m => mOk m ∧ frM (aup mi 58 0 0) m ∧ ((¬ (0 ≤ w ∧ w < 5) ∧ r = -2 ∧ mL m = mL (aup mi 58 0 0)) ∨ ((0 ≤ w ∧ w < 5) ∧ (((aup mi 58 0 0) 73 w = 0 ∧ r = -9 ∧ mL m = mL (aup mi 58 0 0)) ∨ ((aup mi 58 0 0) 73 w ≠ 0 ∧ ((¬ ((0 ≤ T ∧ T ≤ 100000) ∧ (1 ≤ s ∧ s ≤ 200) ∧ (0 ≤ W ∧ W ≤ 500)) ∧ r = -3 ∧ mL m = mL (aup mi 58 0 0)) ∨ (((0 ≤ T ∧ T ≤ 100000) ∧ (1 ≤ s ∧ s ≤ 200) ∧ (0 ≤ W ∧ W ≤ 500)) ∧ ((r = -1 ∧ (∀ v : Int, 0 ≤ v → v ≤ W → okM (aup mi 58 0 0) w s (T + v) ≠ 0) ∧ mL m = mL (aup mi 58 0 0)) ∨ ((0 ≤ r ∧ r ≤ W) ∧ okM (aup mi 58 0 0) w s (T + r) = 0 ∧ (∀ v : Int, 0 ≤ v → v < r → okM (aup mi 58 0 0) w s (T + v) ≠ 0) ∧ ((plL (eM (aup mi 58 0 0)) (dM (aup mi 58 0 0)) (outL (fun k => (aup mi 58 0 0) 72 (100 * w + k)) ((aup mi 58 0 0) 58 6).toNat (T + r) s ((aup mi 58 0 0) 73 w).toNat 0) (mL (aup mi 58 0 0))).2).Perm (mL m))))))))))) := by
  refine SPg.int rfl (by decide +kernel) (Nat.le_of_ble_eq_true rfl) ?_
  show AWm RX7 cX7_weave 5 6 _ 0 [(0, .ref 58), (1, iI w), (2, iI T), (3, iI s), (4, iI W)] [] mi mr
  refine aw_aload_n (i := 0) (q := 0) dX7_weave_0 rfl rfl ?_
  refine aw_iconst dX7_weave_1 ?_
  refine aw_putIk 0 flX7_1 SH_58 (by decide) rfl rfl rfl (by decide) dX7_weave_2 ?_
  exact t_weave (mi := aup mi 58 0 0) hR h_w h_T h_s h_W hB ho hpl hp
