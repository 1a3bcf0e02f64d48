-- part 44: the model: records, sounds, turns (printed by wip/whole/gen/p44.py)
/-- the model's record with one stroke more -/
def rcA (m : aM) (b c : Int) : aM := aup (aup (aup (aup m 64 (m 58 13 % 200) b) 65 (m 58 13 % 200) (m 58 9)) 66 (m 58 13 % 200) c) 58 13 (m 58 13 + 1)
theorem rcA_o {m : aM} {b c : Int} {x : Nat} {j : Int} (h : (x < 64 ∨ 66 < x) ∧ (x ≠ 58 ∨ j ≠ 13)) : rcA m b c x j = m x j := by
  unfold rcA
  have e : aup (aup (aup m 64 (m 58 13 % 200) b) 65 (m 58 13 % 200) (m 58 9)) 66 (m 58 13 % 200) c x j = m x j := by rw [aup_a (by omega), aup_a (by omega), aup_a (by omega)]
  rcases h.2 with q | q
  · rw [aup_a q]; exact e
  · rw [aup_k q]; exact e
theorem rcA_n (m : aM) (b c : Int) : rcA m b c 58 13 = m 58 13 + 1 := by unfold rcA; rw [aup_eq]
theorem s_X7_records {mr : aR} (hR : Rok mr) {mi : aM} {b c : Int} (h_b : -2147483648 ≤ b ∧ b ≤ 2147483647) (hc : c = 0 ∨ c = 1) (hr : 0 ≤ mi 58 13 ∧ mi 58 13 ≤ 3000000) : SPg yX7_records cX7_records 3 none 1 [.ref 58, iI b, iI c] mi mr (Pv mr (fun m => m = rcA mi b c)) := by
  refine SPg.void rfl (by decide +kernel) (Nat.le_of_ble_eq_true rfl) ?_
  show AWm RX7 cX7_records 3 1 _ 0 [(0, .ref 58), (1, iI b), (2, iI c)] [] mi mr
  have hq9 : mi 58 13 - (mi 58 13).tdiv 200 * 200 = mi 58 13 % 200 := by rw [Int.tdiv_eq_ediv_of_nonneg (by omega)]; omega
  have hq8 : 0 ≤ mi 58 13 - (mi 58 13).tdiv 200 * 200 ∧ mi 58 13 - (mi 58 13).tdiv 200 * 200 < 200 := by rw [hq9]; omega
  refine aw_aload_n (i := 0) (q := 0) dX7_records_0 rfl rfl ?_
  refine aw_getR (r := 64) flX7_29 SH_58 (by decide) rfl (rk_58_10 hR) dX7_records_1 ?_
  refine aw_aload_n (i := 0) (q := 0) dX7_records_4 rfl rfl ?_
  refine aw_getIk (x := mi 58 13) 13 flX7_155 SH_58 (by decide) rfl rfl rfl dX7_records_5 (fun r5 => ?_)
  refine aw_sipush (x := 200) dX7_records_8 rfl ?_
  refine aw_irem dX7_records_11 (by first | assumption | omega) (by decide) (by omega) (by omega) ?_
  refine aw_iload_n (i := 1) (q := 1) dX7_records_12 rfl rfl ?_
  refine aw_iast SH_64 (by decide) ⟨by omega, by omega⟩ (by first | assumption | omega) dX7_records_13 ?_
  refine aw_aload_n (i := 0) (q := 0) dX7_records_14 rfl rfl ?_
  refine aw_getR (r := 65) flX7_32 SH_58 (by decide) rfl (rk_58_11 hR) dX7_records_15 ?_
  refine aw_aload_n (i := 0) (q := 0) dX7_records_18 rfl rfl ?_
  refine aw_getIk (x := mi 58 13) 13 flX7_155 SH_58 (by decide) rfl rfl (by (rw [aup_a (by decide)]) <;> rfl) dX7_records_19 (fun r19 => ?_)
  refine aw_sipush (x := 200) dX7_records_22 rfl ?_
  refine aw_irem dX7_records_25 (by first | assumption | omega) (by decide) (by omega) (by omega) ?_
  refine aw_aload_n (i := 0) (q := 0) dX7_records_26 rfl rfl ?_
  refine aw_getIk (x := mi 58 9) 9 flX7_158 SH_58 (by decide) rfl rfl (by (rw [aup_a (by decide)]) <;> rfl) dX7_records_27 (fun r27 => ?_)
  refine aw_iast SH_65 (by decide) ⟨by omega, by omega⟩ (by first | assumption | omega) dX7_records_30 ?_
  refine aw_aload_n (i := 0) (q := 0) dX7_records_31 rfl rfl ?_
  refine aw_getR (r := 66) flX7_35 SH_58 (by decide) rfl (rk_58_12 hR) dX7_records_32 ?_
  refine aw_aload_n (i := 0) (q := 0) dX7_records_35 rfl rfl ?_
  refine aw_getIk (x := mi 58 13) 13 flX7_155 SH_58 (by decide) rfl rfl (by (rw [aup_a (by decide), aup_a (by decide)]) <;> rfl) dX7_records_36 (fun r36 => ?_)
  refine aw_sipush (x := 200) dX7_records_39 rfl ?_
  refine aw_irem dX7_records_42 (by first | assumption | omega) (by decide) (by omega) (by omega) ?_
  refine aw_iload_n (i := 2) (q := 2) dX7_records_43 rfl rfl ?_
  refine aw_zast SH_66 (by decide) ⟨by omega, by omega⟩ (by omega) dX7_records_44 ?_
  refine aw_aload_n (i := 0) (q := 0) dX7_records_45 rfl rfl ?_
  refine aw_dup dX7_records_46 rfl ?_
  refine aw_getIk (x := mi 58 13) 13 flX7_155 SH_58 (by decide) rfl rfl (by (rw [aup_a (by decide), aup_a (by decide), aup_a (by decide)]) <;> rfl) dX7_records_47 (fun r47 => ?_)
  refine aw_iconst dX7_records_50 ?_
  refine aw_iadd dX7_records_51 ?_
  refine aw_putIk 13 flX7_155 SH_58 (by decide) rfl rfl rfl (by first | assumption | omega) dX7_records_52 ?_
  exact aw_vret ⟨rfl, rfl, rfl, (by unfold rcA; rw [hq9])⟩ (Nat.le_refl _) (Nat.le_refl _) dX7_records_55
theorem s_X7_sounds {mr : aR} (hR : Rok mr) {mi : aM} {b : Int} (hb : 0 ≤ b ∧ b < mi 58 6) (hB : mB mi) (ho : mOk mi) (hr : 0 ≤ mi 58 13 ∧ mi 58 13 ≤ 3000000) : SPg yX7_sounds cX7_sounds 3 none 3 [.ref 58, iI b] mi mr (Pv mr (fun m => (m = mi ∧ ∀ i : Int, 0 ≤ i → i < mi 58 18 → ¬ (mi 67 i = b ∧ mi 68 i = mi 58 9)) ∨ ∃ k : Int, 0 ≤ k ∧ k < mi 58 18 ∧ mi 67 k = b ∧ mi 68 k = mi 58 9 ∧ m = rcA (mRem (aup mi 63 b (mi 58 9 + mi 60 b)) k) b 0)) := by
  refine SPg.void rfl (by decide +kernel) (Nat.le_of_ble_eq_true rfl) ?_
  show AWm RX7 cX7_sounds 3 3 _ 0 [(0, .ref 58), (1, iI b)] [] mi mr
  have hn := hB.1
  have hnw := hB.2.1
  obtain ⟨k59, k60, k61, k62, k63, k86, k87, k88⟩ := hB.2.2 b hb.1 hb.2
  have hc1 := ho.1
  refine aw_aload_n (i := 0) (q := 0) dX7_sounds_0 rfl rfl ?_
  refine aw_iload_n (i := 1) (q := 1) dX7_sounds_1 rfl rfl ?_
  refine aw_aload_n (i := 0) (q := 0) dX7_sounds_2 rfl rfl ?_
  refine aw_getIk (x := mi 58 9) 9 flX7_158 SH_58 (by decide) rfl rfl rfl dX7_sounds_3 (fun r3 => ?_)
  refine aw_cVp (As := [iI b, iI (mi 58 9)]) (st := []) clX7_182 (s_X7_strokeOf hR ho (by omega) (by omega)) SH_58 rfl (by decide) rfl rfl (Nat.le_of_ble_eq_true rfl) (by decide) (by decide) (Nat.le_refl _) (Nat.le_refl _) dX7_sounds_6 (fun k hk => ?_)
  have hkr : -1 ≤ k ∧ k < 300 := by rcases hk with q | q; (have q1 := q.1; have q2 := q.2.1; omega); (have q1 := q.1; omega)
  refine aw_istore_n (i := 2) (lv' := [(0, .ref 58), (1, iI b), (2, iI k)]) [1, 2, 0] dX7_sounds_9 rfl (by decide) rfl ?_
  refine aw_iload_n (i := 2) (q := 2) dX7_sounds_10 rfl rfl ?_
  refine aw_iconst dX7_sounds_11 ?_
  refine aw_icmp_ne (tgt := 16) dX7_sounds_12 (by decide) (by first | assumption | omega) (by decide) (fun c12 => ?_) (fun c12 => ?_)
  · have hk9 : 0 ≤ k ∧ k < mi 58 18 ∧ mi 67 k = b ∧ mi 68 k = mi 58 9 := by rcases hk with q | q; (exact q); (have q1 := q.1; omega)
    refine aw_aload_n (i := 0) (q := 0) dX7_sounds_16 rfl rfl ?_
    refine aw_getR (r := 63) flX7_26 SH_58 (by decide) rfl (rk_58_5 hR) dX7_sounds_17 ?_
    refine aw_iload_n (i := 1) (q := 1) dX7_sounds_20 rfl rfl ?_
    refine aw_aload_n (i := 0) (q := 0) dX7_sounds_21 rfl rfl ?_
    refine aw_getIk (x := mi 58 9) 9 flX7_158 SH_58 (by decide) rfl rfl rfl dX7_sounds_22 (fun r22 => ?_)
    refine aw_aload_n (i := 0) (q := 0) dX7_sounds_25 rfl rfl ?_
    refine aw_getR (r := 60) flX7_17 SH_58 (by decide) rfl (rk_58_2 hR) dX7_sounds_26 ?_
    refine aw_iload_n (i := 1) (q := 1) dX7_sounds_29 rfl rfl ?_
    refine aw_ialdv (x := mi 60 b) SH_60 (by decide) ⟨by omega, by omega⟩ rfl dX7_sounds_30 (fun r30 => ?_)
    refine aw_iadd dX7_sounds_31 ?_
    refine aw_iast SH_63 (by decide) ⟨by omega, by omega⟩ (by first | assumption | omega) dX7_sounds_32 ?_
    refine aw_aload_n (i := 0) (q := 0) dX7_sounds_33 rfl rfl ?_
    refine aw_iload_n (i := 2) (q := 2) dX7_sounds_34 rfl rfl ?_
    refine aw_cVv (As := [iI k]) (st := []) clX7_186 (s_X7_removes (mi := (aup mi 63 b (mi 58 9 + mi 60 b))) hR (mOk_congr (fun j => ⟨aup_a (by decide), aup_a (by decide), aup_a (by decide)⟩) (aup_a (by decide)) ho) ⟨by omega, by rw [aup_a (by decide)]; omega⟩) SH_58 rfl (by decide) rfl rfl (Nat.le_of_ble_eq_true rfl) (by decide) (by decide) (Nat.le_refl _) (Nat.le_refl _) dX7_sounds_35 (fun m1 hm1 => ?_)
    have e13 : m1 58 13 = mi 58 13 := by rw [hm1, mRem_o (by omega), aup_a (by decide)]
    refine aw_aload_n (i := 0) (q := 0) dX7_sounds_38 rfl rfl ?_
    refine aw_iload_n (i := 1) (q := 1) dX7_sounds_39 rfl rfl ?_
    refine aw_iconst dX7_sounds_40 ?_
    refine aw_cVv (As := [iI b, iI 0]) (st := []) clX7_298 (s_X7_records (mi := m1) hR (by omega) (Or.inl rfl) (by omega)) SH_58 rfl (by decide) rfl rfl (Nat.le_of_ble_eq_true rfl) (by decide) (by decide) (Nat.le_refl _) (Nat.le_refl _) dX7_sounds_41 (fun m2 hm2 => ?_)
    exact aw_vret ⟨rfl, rfl, rfl, Or.inr ⟨k, hk9.1, hk9.2.1, hk9.2.2.1, hk9.2.2.2, by rw [hm2, hm1]⟩⟩ (Nat.le_refl _) (Nat.le_refl _) dX7_sounds_44
  · exact aw_vret ⟨rfl, rfl, rfl, Or.inl ⟨rfl, by rcases hk with q | q; (have q1 := q.1; omega); (exact q.2)⟩⟩ (Nat.le_refl _) (Nat.le_refl _) dX7_sounds_15
/-- a bell of the model after its turn -/
noncomputable def mtA (mi : aM) (b : Int) : aM :=
  let f := trn (mi 89 b) (mi 88 b) (mi 91 b)
  let m1 := aup (aup mi 90 b (-(mi 90 b))) 89 b f
  let m2 := if 400 ≤ f ∧ mi 87 b = 0 then rcA m1 b 1 else m1
  aup (aup m2 86 b (if 0 < f ∨ mi 88 b ≠ 0 then 1 else 0)) 92 b (mi 92 b + mi 62 b)
theorem s_X7_turns {mr : aR} (hR : Rok mr) {mi : aM} {b : Int} (hb : 0 ≤ b ∧ b < mi 58 6) (hB : mB mi) (hq : (0 ≤ mi 89 b ∧ mi 89 b ≤ 1000) ∧ (0 ≤ mi 91 b ∧ mi 91 b ≤ 1000) ∧ (0 ≤ mi 92 b ∧ mi 92 b ≤ 200100)) (hsd : mi 90 b = 1 ∨ mi 90 b = -1) (hr : 0 ≤ mi 58 13 ∧ mi 58 13 ≤ 3000000) : SPg yX7_turns cX7_turns 2 none 2 [.ref 58, iI b] mi mr (Pv mr (fun m => m = mtA mi b)) := by
  refine SPg.void rfl (by decide +kernel) (Nat.le_of_ble_eq_true rfl) ?_
  show AWm RX7 cX7_turns 2 2 _ 0 [(0, .ref 58), (1, iI b)] [] mi mr
  have hn := hB.1
  have hnw := hB.2.1
  obtain ⟨k59, k60, k61, k62, k63, k86, k87, k88⟩ := hB.2.2 b hb.1 hb.2
  obtain ⟨q1, q3, q4⟩ := hq
  refine aw_aload_n (i := 0) (q := 0) dX7_turns_0 rfl rfl ?_
  refine aw_getR (r := 90) flX7_111 SH_58 (by decide) rfl (rk_58_48 hR) dX7_turns_1 ?_
  refine aw_iload_n (i := 1) (q := 1) dX7_turns_4 rfl rfl ?_
  refine aw_aload_n (i := 0) (q := 0) dX7_turns_5 rfl rfl ?_
  refine aw_getR (r := 90) flX7_111 SH_58 (by decide) rfl (rk_58_48 hR) dX7_turns_6 ?_
  refine aw_iload_n (i := 1) (q := 1) dX7_turns_9 rfl rfl ?_
  refine aw_ialdv (x := mi 90 b) SH_90 (by decide) ⟨by omega, by omega⟩ rfl dX7_turns_10 (fun r10 => ?_)
  refine aw_ineg dX7_turns_11 ?_
  refine aw_iast SH_90 (by decide) ⟨by omega, by omega⟩ (by first | assumption | omega) dX7_turns_12 ?_
  refine aw_aload_n (i := 0) (q := 0) dX7_turns_13 rfl rfl ?_
  refine aw_getR (r := 89) flX7_108 SH_58 (by decide) rfl (rk_58_47 hR) dX7_turns_14 ?_
  refine aw_iload_n (i := 1) (q := 1) dX7_turns_17 rfl rfl ?_
  refine aw_aload_n (i := 0) (q := 0) dX7_turns_18 rfl rfl ?_
  refine aw_getR (r := 89) flX7_108 SH_58 (by decide) rfl (rk_58_47 hR) dX7_turns_19 ?_
  refine aw_iload_n (i := 1) (q := 1) dX7_turns_22 rfl rfl ?_
  refine aw_ialdv (x := mi 89 b) SH_89 (by decide) ⟨by omega, by omega⟩ (by (rw [aup_a (by decide)]) <;> rfl) dX7_turns_23 (fun r23 => ?_)
  refine aw_aload_n (i := 0) (q := 0) dX7_turns_24 rfl rfl ?_
  refine aw_getR (r := 88) flX7_105 SH_58 (by decide) rfl (rk_58_46 hR) dX7_turns_25 ?_
  refine aw_iload_n (i := 1) (q := 1) dX7_turns_28 rfl rfl ?_
  refine aw_zaldv (x := mi 88 b) SH_88 (by decide) ⟨by omega, by omega⟩ (by (rw [aup_a (by decide)]) <;> rfl) dX7_turns_29 (fun r29 => ?_)
  refine aw_aload_n (i := 0) (q := 0) dX7_turns_30 rfl rfl ?_
  refine aw_getR (r := 91) flX7_114 SH_58 (by decide) rfl (rk_58_49 hR) dX7_turns_31 ?_
  refine aw_iload_n (i := 1) (q := 1) dX7_turns_34 rfl rfl ?_
  refine aw_ialdv (x := mi 91 b) SH_91 (by decide) ⟨by omega, by omega⟩ (by (rw [aup_a (by decide)]) <;> rfl) dX7_turns_35 (fun r35 => ?_)
  refine aw_cSp (As := [iI (mi 89 b), iI (mi 88 b), iI (mi 91 b)]) (st := [iI b, .ref 89]) clX7_294 (s_X7_turned hR (by omega) (by omega) (by omega)) rfl rfl (Nat.le_of_ble_eq_true rfl) (by decide) (by decide) (Nat.le_refl _) (Nat.le_refl _) dX7_turns_36 (fun v36 hv36 => ?_)
  have htr := trn_rng (motor := mi 88 b) (amp := mi 89 b) (aim := mi 91 b) q1 q3
  rw [← hv36] at htr
  refine aw_iast SH_89 (by decide) ⟨by omega, by omega⟩ (by first | assumption | omega) dX7_turns_39 ?_
  refine aw_aload_n (i := 0) (q := 0) dX7_turns_40 rfl rfl ?_
  refine aw_getR (r := 89) flX7_108 SH_58 (by decide) rfl (rk_58_47 hR) dX7_turns_41 ?_
  refine aw_iload_n (i := 1) (q := 1) dX7_turns_44 rfl rfl ?_
  refine aw_ialdv (x := v36) SH_89 (by decide) ⟨by omega, by omega⟩ (by (rw [aup_eq]) <;> rfl) dX7_turns_45 (fun r45 => ?_)
  refine aw_sipush (x := 400) dX7_turns_46 rfl ?_
  refine aw_icmp_lt (tgt := 67) dX7_turns_49 (by decide) (by first | assumption | omega) (by decide) (fun c49 => ?_) (fun c49 => ?_)
  · refine aw_aload_n (i := 0) (q := 0) dX7_turns_67 rfl rfl ?_
    refine aw_getR (r := 86) flX7_99 SH_58 (by decide) rfl (rk_58_44 hR) dX7_turns_68 ?_
    refine aw_iload_n (i := 1) (q := 1) dX7_turns_71 rfl rfl ?_
    refine aw_aload_n (i := 0) (q := 0) dX7_turns_72 rfl rfl ?_
    refine aw_getR (r := 89) flX7_108 SH_58 (by decide) rfl (rk_58_47 hR) dX7_turns_73 ?_
    refine aw_iload_n (i := 1) (q := 1) dX7_turns_76 rfl rfl ?_
    refine aw_ialdv (x := v36) SH_89 (by decide) ⟨by omega, by omega⟩ (by (rw [aup_eq]) <;> rfl) dX7_turns_77 (fun r77 => ?_)
    refine aw_if_gt (tgt := 90) dX7_turns_78 (by decide) (by first | assumption | omega) (fun c78 => ?_) (fun c78 => ?_)
    · refine aw_iconst dX7_turns_90 ?_
      refine aw_goto (tgt := 95) dX7_turns_91 (by decide) ?_
      refine aw_zast SH_86 (by decide) ⟨by omega, by omega⟩ (by decide) dX7_turns_95 ?_
      refine aw_aload_n (i := 0) (q := 0) dX7_turns_96 rfl rfl ?_
      refine aw_getR (r := 92) flX7_117 SH_58 (by decide) rfl (rk_58_50 hR) dX7_turns_97 ?_
      refine aw_iload_n (i := 1) (q := 1) dX7_turns_100 rfl rfl ?_
      refine aw_dup2 dX7_turns_101 rfl rfl ?_
      refine aw_ialdv (x := mi 92 b) SH_92 (by decide) ⟨by omega, by omega⟩ (by (rw [aup_a (by decide), aup_a (by decide), aup_a (by decide)]) <;> rfl) dX7_turns_102 (fun r102 => ?_)
      refine aw_aload_n (i := 0) (q := 0) dX7_turns_103 rfl rfl ?_
      refine aw_getR (r := 62) flX7_23 SH_58 (by decide) rfl (rk_58_4 hR) dX7_turns_104 ?_
      refine aw_iload_n (i := 1) (q := 1) dX7_turns_107 rfl rfl ?_
      refine aw_ialdv (x := mi 62 b) SH_62 (by decide) ⟨by omega, by omega⟩ (by (rw [aup_a (by decide), aup_a (by decide), aup_a (by decide)]) <;> rfl) dX7_turns_108 (fun r108 => ?_)
      refine aw_iadd dX7_turns_109 ?_
      refine aw_iast SH_92 (by decide) ⟨by omega, by omega⟩ (by first | assumption | omega) dX7_turns_110 ?_
      exact aw_vret ⟨rfl, rfl, rfl, (by unfold mtA; dsimp only; rw [← hv36]; rw [if_neg (show ¬ (400 ≤ v36 ∧ mi 87 b = 0) by omega)]; rw [if_pos (show 0 < v36 ∨ mi 88 b ≠ 0 by omega)])⟩ (Nat.le_refl _) (Nat.le_refl _) dX7_turns_111
    · refine aw_aload_n (i := 0) (q := 0) dX7_turns_81 rfl rfl ?_
      refine aw_getR (r := 88) flX7_105 SH_58 (by decide) rfl (rk_58_46 hR) dX7_turns_82 ?_
      refine aw_iload_n (i := 1) (q := 1) dX7_turns_85 rfl rfl ?_
      refine aw_zaldv (x := mi 88 b) SH_88 (by decide) ⟨by omega, by omega⟩ (by (rw [aup_a (by decide), aup_a (by decide)]) <;> rfl) dX7_turns_86 (fun r86 => ?_)
      refine aw_if_eq (tgt := 94) dX7_turns_87 (by decide) (by first | assumption | omega) (fun c87 => ?_) (fun c87 => ?_)
      · refine aw_iconst dX7_turns_94 ?_
        refine aw_zast SH_86 (by decide) ⟨by omega, by omega⟩ (by decide) dX7_turns_95 ?_
        refine aw_aload_n (i := 0) (q := 0) dX7_turns_96 rfl rfl ?_
        refine aw_getR (r := 92) flX7_117 SH_58 (by decide) rfl (rk_58_50 hR) dX7_turns_97 ?_
        refine aw_iload_n (i := 1) (q := 1) dX7_turns_100 rfl rfl ?_
        refine aw_dup2 dX7_turns_101 rfl rfl ?_
        refine aw_ialdv (x := mi 92 b) SH_92 (by decide) ⟨by omega, by omega⟩ (by (rw [aup_a (by decide), aup_a (by decide), aup_a (by decide)]) <;> rfl) dX7_turns_102 (fun r102 => ?_)
        refine aw_aload_n (i := 0) (q := 0) dX7_turns_103 rfl rfl ?_
        refine aw_getR (r := 62) flX7_23 SH_58 (by decide) rfl (rk_58_4 hR) dX7_turns_104 ?_
        refine aw_iload_n (i := 1) (q := 1) dX7_turns_107 rfl rfl ?_
        refine aw_ialdv (x := mi 62 b) SH_62 (by decide) ⟨by omega, by omega⟩ (by (rw [aup_a (by decide), aup_a (by decide), aup_a (by decide)]) <;> rfl) dX7_turns_108 (fun r108 => ?_)
        refine aw_iadd dX7_turns_109 ?_
        refine aw_iast SH_92 (by decide) ⟨by omega, by omega⟩ (by first | assumption | omega) dX7_turns_110 ?_
        exact aw_vret ⟨rfl, rfl, rfl, (by unfold mtA; dsimp only; rw [← hv36]; rw [if_neg (show ¬ (400 ≤ v36 ∧ mi 87 b = 0) by omega)]; rw [if_neg (show ¬ (0 < v36 ∨ mi 88 b ≠ 0) by omega)])⟩ (Nat.le_refl _) (Nat.le_refl _) dX7_turns_111
      · refine aw_iconst dX7_turns_90 ?_
        refine aw_goto (tgt := 95) dX7_turns_91 (by decide) ?_
        refine aw_zast SH_86 (by decide) ⟨by omega, by omega⟩ (by decide) dX7_turns_95 ?_
        refine aw_aload_n (i := 0) (q := 0) dX7_turns_96 rfl rfl ?_
        refine aw_getR (r := 92) flX7_117 SH_58 (by decide) rfl (rk_58_50 hR) dX7_turns_97 ?_
        refine aw_iload_n (i := 1) (q := 1) dX7_turns_100 rfl rfl ?_
        refine aw_dup2 dX7_turns_101 rfl rfl ?_
        refine aw_ialdv (x := mi 92 b) SH_92 (by decide) ⟨by omega, by omega⟩ (by (rw [aup_a (by decide), aup_a (by decide), aup_a (by decide)]) <;> rfl) dX7_turns_102 (fun r102 => ?_)
        refine aw_aload_n (i := 0) (q := 0) dX7_turns_103 rfl rfl ?_
        refine aw_getR (r := 62) flX7_23 SH_58 (by decide) rfl (rk_58_4 hR) dX7_turns_104 ?_
        refine aw_iload_n (i := 1) (q := 1) dX7_turns_107 rfl rfl ?_
        refine aw_ialdv (x := mi 62 b) SH_62 (by decide) ⟨by omega, by omega⟩ (by (rw [aup_a (by decide), aup_a (by decide), aup_a (by decide)]) <;> rfl) dX7_turns_108 (fun r108 => ?_)
        refine aw_iadd dX7_turns_109 ?_
        refine aw_iast SH_92 (by decide) ⟨by omega, by omega⟩ (by first | assumption | omega) dX7_turns_110 ?_
        exact aw_vret ⟨rfl, rfl, rfl, (by unfold mtA; dsimp only; rw [← hv36]; rw [if_neg (show ¬ (400 ≤ v36 ∧ mi 87 b = 0) by omega)]; rw [if_pos (show 0 < v36 ∨ mi 88 b ≠ 0 by omega)])⟩ (Nat.le_refl _) (Nat.le_refl _) dX7_turns_111
  · refine aw_aload_n (i := 0) (q := 0) dX7_turns_52 rfl rfl ?_
    refine aw_getR (r := 87) flX7_102 SH_58 (by decide) rfl (rk_58_45 hR) dX7_turns_53 ?_
    refine aw_iload_n (i := 1) (q := 1) dX7_turns_56 rfl rfl ?_
    refine aw_zaldv (x := mi 87 b) SH_87 (by decide) ⟨by omega, by omega⟩ (by (rw [aup_a (by decide), aup_a (by decide)]) <;> rfl) dX7_turns_57 (fun r57 => ?_)
    refine aw_if_ne (tgt := 67) dX7_turns_58 (by decide) (by first | assumption | omega) (fun c58 => ?_) (fun c58 => ?_)
    · refine aw_aload_n (i := 0) (q := 0) dX7_turns_67 rfl rfl ?_
      refine aw_getR (r := 86) flX7_99 SH_58 (by decide) rfl (rk_58_44 hR) dX7_turns_68 ?_
      refine aw_iload_n (i := 1) (q := 1) dX7_turns_71 rfl rfl ?_
      refine aw_aload_n (i := 0) (q := 0) dX7_turns_72 rfl rfl ?_
      refine aw_getR (r := 89) flX7_108 SH_58 (by decide) rfl (rk_58_47 hR) dX7_turns_73 ?_
      refine aw_iload_n (i := 1) (q := 1) dX7_turns_76 rfl rfl ?_
      refine aw_ialdv (x := v36) SH_89 (by decide) ⟨by omega, by omega⟩ (by (rw [aup_eq]) <;> rfl) dX7_turns_77 (fun r77 => ?_)
      refine aw_if_gt (tgt := 90) dX7_turns_78 (by decide) (by first | assumption | omega) (fun c78 => ?_) (fun c78 => ?_)
      · refine aw_iconst dX7_turns_90 ?_
        refine aw_goto (tgt := 95) dX7_turns_91 (by decide) ?_
        refine aw_zast SH_86 (by decide) ⟨by omega, by omega⟩ (by decide) dX7_turns_95 ?_
        refine aw_aload_n (i := 0) (q := 0) dX7_turns_96 rfl rfl ?_
        refine aw_getR (r := 92) flX7_117 SH_58 (by decide) rfl (rk_58_50 hR) dX7_turns_97 ?_
        refine aw_iload_n (i := 1) (q := 1) dX7_turns_100 rfl rfl ?_
        refine aw_dup2 dX7_turns_101 rfl rfl ?_
        refine aw_ialdv (x := mi 92 b) SH_92 (by decide) ⟨by omega, by omega⟩ (by (rw [aup_a (by decide), aup_a (by decide), aup_a (by decide)]) <;> rfl) dX7_turns_102 (fun r102 => ?_)
        refine aw_aload_n (i := 0) (q := 0) dX7_turns_103 rfl rfl ?_
        refine aw_getR (r := 62) flX7_23 SH_58 (by decide) rfl (rk_58_4 hR) dX7_turns_104 ?_
        refine aw_iload_n (i := 1) (q := 1) dX7_turns_107 rfl rfl ?_
        refine aw_ialdv (x := mi 62 b) SH_62 (by decide) ⟨by omega, by omega⟩ (by (rw [aup_a (by decide), aup_a (by decide), aup_a (by decide)]) <;> rfl) dX7_turns_108 (fun r108 => ?_)
        refine aw_iadd dX7_turns_109 ?_
        refine aw_iast SH_92 (by decide) ⟨by omega, by omega⟩ (by first | assumption | omega) dX7_turns_110 ?_
        exact aw_vret ⟨rfl, rfl, rfl, (by unfold mtA; dsimp only; rw [← hv36]; rw [if_neg (show ¬ (400 ≤ v36 ∧ mi 87 b = 0) by omega)]; rw [if_pos (show 0 < v36 ∨ mi 88 b ≠ 0 by omega)])⟩ (Nat.le_refl _) (Nat.le_refl _) dX7_turns_111
      · refine aw_aload_n (i := 0) (q := 0) dX7_turns_81 rfl rfl ?_
        refine aw_getR (r := 88) flX7_105 SH_58 (by decide) rfl (rk_58_46 hR) dX7_turns_82 ?_
        refine aw_iload_n (i := 1) (q := 1) dX7_turns_85 rfl rfl ?_
        refine aw_zaldv (x := mi 88 b) SH_88 (by decide) ⟨by omega, by omega⟩ (by (rw [aup_a (by decide), aup_a (by decide)]) <;> rfl) dX7_turns_86 (fun r86 => ?_)
        refine aw_if_eq (tgt := 94) dX7_turns_87 (by decide) (by first | assumption | omega) (fun c87 => ?_) (fun c87 => ?_)
        · refine aw_iconst dX7_turns_94 ?_
          refine aw_zast SH_86 (by decide) ⟨by omega, by omega⟩ (by decide) dX7_turns_95 ?_
          refine aw_aload_n (i := 0) (q := 0) dX7_turns_96 rfl rfl ?_
          refine aw_getR (r := 92) flX7_117 SH_58 (by decide) rfl (rk_58_50 hR) dX7_turns_97 ?_
          refine aw_iload_n (i := 1) (q := 1) dX7_turns_100 rfl rfl ?_
          refine aw_dup2 dX7_turns_101 rfl rfl ?_
          refine aw_ialdv (x := mi 92 b) SH_92 (by decide) ⟨by omega, by omega⟩ (by (rw [aup_a (by decide), aup_a (by decide), aup_a (by decide)]) <;> rfl) dX7_turns_102 (fun r102 => ?_)
          refine aw_aload_n (i := 0) (q := 0) dX7_turns_103 rfl rfl ?_
          refine aw_getR (r := 62) flX7_23 SH_58 (by decide) rfl (rk_58_4 hR) dX7_turns_104 ?_
          refine aw_iload_n (i := 1) (q := 1) dX7_turns_107 rfl rfl ?_
          refine aw_ialdv (x := mi 62 b) SH_62 (by decide) ⟨by omega, by omega⟩ (by (rw [aup_a (by decide), aup_a (by decide), aup_a (by decide)]) <;> rfl) dX7_turns_108 (fun r108 => ?_)
          refine aw_iadd dX7_turns_109 ?_
          refine aw_iast SH_92 (by decide) ⟨by omega, by omega⟩ (by first | assumption | omega) dX7_turns_110 ?_
          exact aw_vret ⟨rfl, rfl, rfl, (by unfold mtA; dsimp only; rw [← hv36]; rw [if_neg (show ¬ (400 ≤ v36 ∧ mi 87 b = 0) by omega)]; rw [if_neg (show ¬ (0 < v36 ∨ mi 88 b ≠ 0) by omega)])⟩ (Nat.le_refl _) (Nat.le_refl _) dX7_turns_111
        · refine aw_iconst dX7_turns_90 ?_
          refine aw_goto (tgt := 95) dX7_turns_91 (by decide) ?_
          refine aw_zast SH_86 (by decide) ⟨by omega, by omega⟩ (by decide) dX7_turns_95 ?_
          refine aw_aload_n (i := 0) (q := 0) dX7_turns_96 rfl rfl ?_
          refine aw_getR (r := 92) flX7_117 SH_58 (by decide) rfl (rk_58_50 hR) dX7_turns_97 ?_
          refine aw_iload_n (i := 1) (q := 1) dX7_turns_100 rfl rfl ?_
          refine aw_dup2 dX7_turns_101 rfl rfl ?_
          refine aw_ialdv (x := mi 92 b) SH_92 (by decide) ⟨by omega, by omega⟩ (by (rw [aup_a (by decide), aup_a (by decide), aup_a (by decide)]) <;> rfl) dX7_turns_102 (fun r102 => ?_)
          refine aw_aload_n (i := 0) (q := 0) dX7_turns_103 rfl rfl ?_
          refine aw_getR (r := 62) flX7_23 SH_58 (by decide) rfl (rk_58_4 hR) dX7_turns_104 ?_
          refine aw_iload_n (i := 1) (q := 1) dX7_turns_107 rfl rfl ?_
          refine aw_ialdv (x := mi 62 b) SH_62 (by decide) ⟨by omega, by omega⟩ (by (rw [aup_a (by decide), aup_a (by decide), aup_a (by decide)]) <;> rfl) dX7_turns_108 (fun r108 => ?_)
          refine aw_iadd dX7_turns_109 ?_
          refine aw_iast SH_92 (by decide) ⟨by omega, by omega⟩ (by first | assumption | omega) dX7_turns_110 ?_
          exact aw_vret ⟨rfl, rfl, rfl, (by unfold mtA; dsimp only; rw [← hv36]; rw [if_neg (show ¬ (400 ≤ v36 ∧ mi 87 b = 0) by omega)]; rw [if_pos (show 0 < v36 ∨ mi 88 b ≠ 0 by omega)])⟩ (Nat.le_refl _) (Nat.le_refl _) dX7_turns_111
    · refine aw_aload_n (i := 0) (q := 0) dX7_turns_61 rfl rfl ?_
      refine aw_iload_n (i := 1) (q := 1) dX7_turns_62 rfl rfl ?_
      refine aw_iconst dX7_turns_63 ?_
      refine aw_cVv (As := [iI b, iI 1]) (st := []) clX7_298 (s_X7_records hR (by omega) (Or.inr rfl) (by rw [aup_a (by decide), aup_a (by decide)]; exact hr)) SH_58 rfl (by decide) rfl rfl (Nat.le_of_ble_eq_true rfl) (by decide) (by decide) (Nat.le_refl _) (Nat.le_refl _) dX7_turns_64 (fun m2 hm2 => ?_)
      have g : ∀ (x : Nat) (j : Int), x < 58 ∨ 66 < x ∨ (58 < x ∧ x < 64) → m2 x j = (aup (aup mi 90 b (-(mi 90 b))) 89 b v36) x j := fun x j q => by rw [hm2]; exact rcA_o (by omega)
      have g89 : m2 89 b = v36 := by rw [g 89 b (by omega), aup_eq]
      have g88 : m2 88 b = mi 88 b := by rw [g 88 b (by omega), aup_a (by decide), aup_a (by decide)]
      have g92 : m2 92 b = mi 92 b := by rw [g 92 b (by omega), aup_a (by decide), aup_a (by decide)]
      have g62 : m2 62 b = mi 62 b := by rw [g 62 b (by omega), aup_a (by decide), aup_a (by decide)]
      refine aw_aload_n (i := 0) (q := 0) dX7_turns_67 rfl rfl ?_
      refine aw_getR (r := 86) flX7_99 SH_58 (by decide) rfl (rk_58_44 hR) dX7_turns_68 ?_
      refine aw_iload_n (i := 1) (q := 1) dX7_turns_71 rfl rfl ?_
      refine aw_aload_n (i := 0) (q := 0) dX7_turns_72 rfl rfl ?_
      refine aw_getR (r := 89) flX7_108 SH_58 (by decide) rfl (rk_58_47 hR) dX7_turns_73 ?_
      refine aw_iload_n (i := 1) (q := 1) dX7_turns_76 rfl rfl ?_
      refine aw_ialdv (x := m2 89 b) SH_89 (by decide) ⟨by omega, by omega⟩ rfl dX7_turns_77 (fun r77 => ?_)
      refine aw_if_gt (tgt := 90) dX7_turns_78 (by decide) (by first | assumption | omega) (fun c78 => ?_) (fun c78 => ?_)
      · refine aw_iconst dX7_turns_90 ?_
        refine aw_goto (tgt := 95) dX7_turns_91 (by decide) ?_
        refine aw_zast SH_86 (by decide) ⟨by omega, by omega⟩ (by decide) dX7_turns_95 ?_
        refine aw_aload_n (i := 0) (q := 0) dX7_turns_96 rfl rfl ?_
        refine aw_getR (r := 92) flX7_117 SH_58 (by decide) rfl (rk_58_50 hR) dX7_turns_97 ?_
        refine aw_iload_n (i := 1) (q := 1) dX7_turns_100 rfl rfl ?_
        refine aw_dup2 dX7_turns_101 rfl rfl ?_
        refine aw_ialdv (x := m2 92 b) SH_92 (by decide) ⟨by omega, by omega⟩ (by (rw [aup_a (by decide)]) <;> rfl) dX7_turns_102 (fun r102 => ?_)
        refine aw_aload_n (i := 0) (q := 0) dX7_turns_103 rfl rfl ?_
        refine aw_getR (r := 62) flX7_23 SH_58 (by decide) rfl (rk_58_4 hR) dX7_turns_104 ?_
        refine aw_iload_n (i := 1) (q := 1) dX7_turns_107 rfl rfl ?_
        refine aw_ialdv (x := m2 62 b) SH_62 (by decide) ⟨by omega, by omega⟩ (by (rw [aup_a (by decide)]) <;> rfl) dX7_turns_108 (fun r108 => ?_)
        refine aw_iadd dX7_turns_109 ?_
        refine aw_iast SH_92 (by decide) ⟨by omega, by omega⟩ (by first | assumption | omega) dX7_turns_110 ?_
        exact aw_vret ⟨rfl, rfl, rfl, (by unfold mtA; dsimp only; rw [← hv36]; rw [if_pos (show 400 ≤ v36 ∧ mi 87 b = 0 by omega)]; rw [if_pos (show 0 < v36 ∨ mi 88 b ≠ 0 by omega)]; rw [g92, g62, hm2])⟩ (Nat.le_refl _) (Nat.le_refl _) dX7_turns_111
      · refine aw_aload_n (i := 0) (q := 0) dX7_turns_81 rfl rfl ?_
        refine aw_getR (r := 88) flX7_105 SH_58 (by decide) rfl (rk_58_46 hR) dX7_turns_82 ?_
        refine aw_iload_n (i := 1) (q := 1) dX7_turns_85 rfl rfl ?_
        refine aw_zaldv (x := m2 88 b) SH_88 (by decide) ⟨by omega, by omega⟩ rfl dX7_turns_86 (fun r86 => ?_)
        refine aw_if_eq (tgt := 94) dX7_turns_87 (by decide) (by first | assumption | omega) (fun c87 => ?_) (fun c87 => ?_)
        · refine aw_iconst dX7_turns_94 ?_
          refine aw_zast SH_86 (by decide) ⟨by omega, by omega⟩ (by decide) dX7_turns_95 ?_
          refine aw_aload_n (i := 0) (q := 0) dX7_turns_96 rfl rfl ?_
          refine aw_getR (r := 92) flX7_117 SH_58 (by decide) rfl (rk_58_50 hR) dX7_turns_97 ?_
          refine aw_iload_n (i := 1) (q := 1) dX7_turns_100 rfl rfl ?_
          refine aw_dup2 dX7_turns_101 rfl rfl ?_
          refine aw_ialdv (x := m2 92 b) SH_92 (by decide) ⟨by omega, by omega⟩ (by (rw [aup_a (by decide)]) <;> rfl) dX7_turns_102 (fun r102 => ?_)
          refine aw_aload_n (i := 0) (q := 0) dX7_turns_103 rfl rfl ?_
          refine aw_getR (r := 62) flX7_23 SH_58 (by decide) rfl (rk_58_4 hR) dX7_turns_104 ?_
          refine aw_iload_n (i := 1) (q := 1) dX7_turns_107 rfl rfl ?_
          refine aw_ialdv (x := m2 62 b) SH_62 (by decide) ⟨by omega, by omega⟩ (by (rw [aup_a (by decide)]) <;> rfl) dX7_turns_108 (fun r108 => ?_)
          refine aw_iadd dX7_turns_109 ?_
          refine aw_iast SH_92 (by decide) ⟨by omega, by omega⟩ (by first | assumption | omega) dX7_turns_110 ?_
          exact aw_vret ⟨rfl, rfl, rfl, (by unfold mtA; dsimp only; rw [← hv36]; rw [if_pos (show 400 ≤ v36 ∧ mi 87 b = 0 by omega)]; rw [if_neg (show ¬ (0 < v36 ∨ mi 88 b ≠ 0) by omega)]; rw [g92, g62, hm2])⟩ (Nat.le_refl _) (Nat.le_refl _) dX7_turns_111
        · refine aw_iconst dX7_turns_90 ?_
          refine aw_goto (tgt := 95) dX7_turns_91 (by decide) ?_
          refine aw_zast SH_86 (by decide) ⟨by omega, by omega⟩ (by decide) dX7_turns_95 ?_
          refine aw_aload_n (i := 0) (q := 0) dX7_turns_96 rfl rfl ?_
          refine aw_getR (r := 92) flX7_117 SH_58 (by decide) rfl (rk_58_50 hR) dX7_turns_97 ?_
          refine aw_iload_n (i := 1) (q := 1) dX7_turns_100 rfl rfl ?_
          refine aw_dup2 dX7_turns_101 rfl rfl ?_
          refine aw_ialdv (x := m2 92 b) SH_92 (by decide) ⟨by omega, by omega⟩ (by (rw [aup_a (by decide)]) <;> rfl) dX7_turns_102 (fun r102 => ?_)
          refine aw_aload_n (i := 0) (q := 0) dX7_turns_103 rfl rfl ?_
          refine aw_getR (r := 62) flX7_23 SH_58 (by decide) rfl (rk_58_4 hR) dX7_turns_104 ?_
          refine aw_iload_n (i := 1) (q := 1) dX7_turns_107 rfl rfl ?_
          refine aw_ialdv (x := m2 62 b) SH_62 (by decide) ⟨by omega, by omega⟩ (by (rw [aup_a (by decide)]) <;> rfl) dX7_turns_108 (fun r108 => ?_)
          refine aw_iadd dX7_turns_109 ?_
          refine aw_iast SH_92 (by decide) ⟨by omega, by omega⟩ (by first | assumption | omega) dX7_turns_110 ?_
          exact aw_vret ⟨rfl, rfl, rfl, (by unfold mtA; dsimp only; rw [← hv36]; rw [if_pos (show 400 ≤ v36 ∧ mi 87 b = 0 by omega)]; rw [if_pos (show 0 < v36 ∨ mi 88 b ≠ 0 by omega)]; rw [g92, g62, hm2])⟩ (Nat.le_refl _) (Nat.le_refl _) dX7_turns_111
