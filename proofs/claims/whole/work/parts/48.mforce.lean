-- part 48: the model: forceBy, sizeOf, worstBy (printed by wip/whole/gen/p48.py)
theorem s_X7_forceBy {mr : aR} (hR : Rok mr) {mi : aM} {b sd a u : Int} (hb : 0 ≤ b ∧ b < 12) (hw : 1 ≤ mi 61 b ∧ mi 61 b ≤ 99) (hh : 10 ≤ mi 62 b ∧ mi 62 b ≤ 60) (hsd : sd = 1 ∨ sd = -1) (ha : 0 ≤ a ∧ a ≤ 1000) (hu : 0 ≤ u ∧ u ≤ mi 62 b) : SPg yX7_forceBy cX7_forceBy 5 (some .int) 1 [.ref 58, iI b, iI sd, iI a, iI u] mi mr (Pp mi mr (fun r => r = frc sd (mi 61 b) a (mi 62 b) u ∧ -1000 ≤ r ∧ r ≤ 1000)) := by
  refine SPg.pure rfl (by decide +kernel) (Nat.le_of_ble_eq_true rfl) ?_
  show AWm RX7 cX7_forceBy 5 1 _ 0 [(0, .ref 58), (1, iI b), (2, iI sd), (3, iI a), (4, iI u)] [] mi mr
  have hn9 := frc_num (side := sd) (weight := mi 61 b) (amp := a) (half := mi 62 b) (u := u) hsd (by omega) ha (by omega) hu
  refine aw_iload_n (i := 2) (q := 2) dX7_forceBy_0 rfl rfl ?_
  refine aw_aload_n (i := 0) (q := 0) dX7_forceBy_1 rfl rfl ?_
  refine aw_getR (r := 61) flX7_20 SH_58 (by decide) rfl (rk_58_3 hR) dX7_forceBy_2 ?_
  refine aw_iload_n (i := 1) (q := 1) dX7_forceBy_5 rfl rfl ?_
  refine aw_ialdv (x := mi 61 b) SH_61 (by decide) ⟨by omega, by omega⟩ rfl dX7_forceBy_6 (fun r6 => ?_)
  refine aw_imul dX7_forceBy_7 ?_
  refine aw_iload_n (i := 3) (q := 3) dX7_forceBy_8 rfl rfl ?_
  refine aw_imul dX7_forceBy_9 ?_
  refine aw_aload_n (i := 0) (q := 0) dX7_forceBy_10 rfl rfl ?_
  refine aw_getR (r := 62) flX7_23 SH_58 (by decide) rfl (rk_58_4 hR) dX7_forceBy_11 ?_
  refine aw_iload_n (i := 1) (q := 1) dX7_forceBy_14 rfl rfl ?_
  refine aw_ialdv (x := mi 62 b) SH_62 (by decide) ⟨by omega, by omega⟩ rfl dX7_forceBy_15 (fun r15 => ?_)
  refine aw_iconst dX7_forceBy_16 ?_
  refine aw_iload (i := 4) (q := 4) dX7_forceBy_17 rfl ?_
  refine aw_imul dX7_forceBy_19 ?_
  refine aw_isub dX7_forceBy_20 ?_
  refine aw_imul dX7_forceBy_21 ?_
  refine aw_bipush (x := 100) dX7_forceBy_22 rfl ?_
  refine aw_aload_n (i := 0) (q := 0) dX7_forceBy_24 rfl rfl ?_
  refine aw_getR (r := 62) flX7_23 SH_58 (by decide) rfl (rk_58_4 hR) dX7_forceBy_25 ?_
  refine aw_iload_n (i := 1) (q := 1) dX7_forceBy_28 rfl rfl ?_
  refine aw_ialdv (x := mi 62 b) SH_62 (by decide) ⟨by omega, by omega⟩ rfl dX7_forceBy_29 (fun r29 => ?_)
  refine aw_imul dX7_forceBy_30 ?_
  refine aw_idiv dX7_forceBy_31 (by first | assumption | omega) (by first | assumption | omega) (by omega) (by omega) ?_
  exact aw_iret ⟨_, rfl, rfl, rfl, rfl, ⟨rfl, frc_rng hsd (by omega) ha hh hu⟩⟩ (Nat.le_refl _) (Nat.le_refl _) dX7_forceBy_32
theorem s_X7_sizeOf {mr : aR} (hR : Rok mr) {mi : aM} {x : Int} (hx : -200000 ≤ x ∧ x ≤ 200000) : SPg yX7_sizeOf cX7_sizeOf 1 (some .int) 1 [iI x] mi mr (Pp mi mr (fun r => r = absI x)) := by
  refine SPg.pure rfl (by decide +kernel) (Nat.le_of_ble_eq_true rfl) ?_
  show AWm RX7 cX7_sizeOf 1 1 _ 0 [(0, iI x)] [] mi mr
  refine aw_iload_n (i := 0) (q := 0) dX7_sizeOf_0 rfl rfl ?_
  refine aw_if_ge (tgt := 9) dX7_sizeOf_1 (by decide) (by first | assumption | omega) (fun c1 => ?_) (fun c1 => ?_)
  · refine aw_iload_n (i := 0) (q := 0) dX7_sizeOf_9 rfl rfl ?_
    exact aw_iret ⟨_, rfl, rfl, rfl, rfl, (by unfold absI; split <;> omega)⟩ (Nat.le_refl _) (Nat.le_refl _) dX7_sizeOf_10
  · refine aw_iload_n (i := 0) (q := 0) dX7_sizeOf_4 rfl rfl ?_
    refine aw_ineg dX7_sizeOf_5 ?_
    refine aw_goto (tgt := 10) dX7_sizeOf_6 (by decide) ?_
    exact aw_iret ⟨_, rfl, rfl, rfl, rfl, (by unfold absI; split <;> omega)⟩ (Nat.le_refl _) (Nat.le_refl _) dX7_sizeOf_10
theorem l_worst {mr : aR} (hR : Rok mr) {mi : aM} {wt : Int} (hwt : 0 ≤ wt ∧ wt < 120) (hrow : ∀ j : Int, wt ≤ j → j ≤ wt + 600 → -100000 ≤ mi 93 j ∧ mi 93 j ≤ 100000) (hrs : ∀ j : Int, 0 ≤ j → j < 601 → -100000 ≤ mi 94 j ∧ mi 94 j ≤ 100000) : ∀ (n : Nat) (g z : Int) (i : Nat), g = mxA (fun k : Nat => mi 93 (wt + k) + mi 94 k) i → z = (i : Int) → (0 ≤ z ∧ z ≤ 601) → 601 - z < n → AWm RX7 cX7_worstBy 5 2 (Pp mi mr (fun r => r = mxA (fun k : Nat => mi 93 (wt + k) + mi 94 k) 601)) 4 [(0, .ref 58), (1, iI wt), (2, iI g), (3, iI z)] [] mi mr := by
  intro n
  induction n with
  | zero => intro g z i hg hz h2 h3; omega
  | succ n ih =>
    intro g z i hg hz h2 h3
    have hg0 := mxA_nn (fun k : Nat => mi 93 (wt + k) + mi 94 k) i
    have hg1 := mxA_le (f := (fun k : Nat => mi 93 (wt + k) + mi 94 k)) (B := 200000) (by decide) (n := i) (fun k hk => by have a1 := hrow (wt + k) (by omega) (by omega); have a2 := hrs k (by omega) (by omega); omega)
    refine aw_iload_n (i := 3) (q := 3) dX7_worstBy_4 rfl rfl ?_
    refine aw_sipush (x := 600) dX7_worstBy_5 rfl ?_
    refine aw_icmp_gt (tgt := 50) dX7_worstBy_8 (by decide) (by first | assumption | omega) (by decide) (fun c8 => ?_) (fun c8 => ?_)
    · refine aw_iload_n (i := 2) (q := 2) dX7_worstBy_50 rfl rfl ?_
      exact aw_iret ⟨_, rfl, rfl, rfl, rfl, (by rw [hg, show i = 601 by omega])⟩ (Nat.le_refl _) (Nat.le_refl _) dX7_worstBy_51
    · have hr9 := hrow (wt + z) (by omega) (by omega)
      have hr8 := hrs z (by omega) (by omega)
      refine aw_aload_n (i := 0) (q := 0) dX7_worstBy_11 rfl rfl ?_
      refine aw_getR (r := 93) flX7_120 SH_58 (by decide) rfl (rk_58_51 hR) dX7_worstBy_12 ?_
      refine aw_iload_n (i := 1) (q := 1) dX7_worstBy_15 rfl rfl ?_
      refine aw_iload_n (i := 3) (q := 3) dX7_worstBy_16 rfl rfl ?_
      refine aw_iadd dX7_worstBy_17 ?_
      refine aw_ialdv (x := mi 93 (wt + z)) SH_93 (by decide) ⟨by omega, by omega⟩ rfl dX7_worstBy_18 (fun r18 => ?_)
      refine aw_aload_n (i := 0) (q := 0) dX7_worstBy_19 rfl rfl ?_
      refine aw_getR (r := 94) flX7_123 SH_58 (by decide) rfl (rk_58_52 hR) dX7_worstBy_20 ?_
      refine aw_iload_n (i := 3) (q := 3) dX7_worstBy_23 rfl rfl ?_
      refine aw_ialdv (x := mi 94 z) SH_94 (by decide) ⟨by omega, by omega⟩ rfl dX7_worstBy_24 (fun r24 => ?_)
      refine aw_iadd dX7_worstBy_25 ?_
      refine aw_cSp (As := [iI ((mi 93 (wt + z)) + (mi 94 z))]) (st := []) clX7_316 (s_X7_sizeOf hR (by omega)) rfl rfl (Nat.le_of_ble_eq_true rfl) (by decide) (by decide) (Nat.le_refl _) (Nat.le_refl _) dX7_worstBy_26 (fun v26 hv26 => ?_)
      have ha9 : (v26 = mi 93 (wt + z) + mi 94 z ∧ 0 ≤ mi 93 (wt + z) + mi 94 z) ∨ (v26 = -(mi 93 (wt + z) + mi 94 z) ∧ mi 93 (wt + z) + mi 94 z < 0) := by revert hv26; unfold absI; split <;> omega
      refine aw_istore (i := 4) (lv' := [(0, .ref 58), (1, iI wt), (2, iI g), (3, iI z), (4, iI v26)]) [1, 2, 3, 4, 0] dX7_worstBy_29 (by decide) rfl ?_
      refine aw_iload (i := 4) (q := 4) dX7_worstBy_31 rfl ?_
      refine aw_iload_n (i := 2) (q := 2) dX7_worstBy_33 rfl rfl ?_
      refine aw_icmp_le (tgt := 42) dX7_worstBy_34 (by decide) (by first | assumption | omega) (by first | assumption | omega) (fun c34 => ?_) (fun c34 => ?_)
      · refine aw_iload_n (i := 2) (q := 2) dX7_worstBy_42 rfl rfl ?_
        refine aw_istore_n (i := 2) (lv' := [(0, .ref 58), (1, iI wt), (2, iI g), (3, iI z), (4, iI v26)]) [1, 2, 0, 3, 4] dX7_worstBy_43 rfl (by decide) rfl ?_
        refine aw_sub (lv' := [(0, .ref 58), (1, iI wt), (2, iI g), (3, iI z)]) [0, 1, 2, 3] rfl ?_
        refine aw_iinc (i := 3) (q := 3) (x := z) (lv' := [(0, .ref 58), (1, iI wt), (2, iI g), (3, iI (z + 1))]) [1, 2, 3, 0] dX7_worstBy_44 rfl (by decide) rfl ?_
        refine aw_goto (tgt := 4) dX7_worstBy_47 (by decide) ?_
        exact ih _ (z + 1) (i + 1) (mxA_step hg (a := v26) (by rw [← hz]; exact ha9) (by omega)) (by omega) (by omega) (by omega)
      · refine aw_iload (i := 4) (q := 4) dX7_worstBy_37 rfl ?_
        refine aw_goto (tgt := 43) dX7_worstBy_39 (by decide) ?_
        refine aw_istore_n (i := 2) (lv' := [(0, .ref 58), (1, iI wt), (2, iI v26), (3, iI z), (4, iI v26)]) [1, 2, 0, 3, 4] dX7_worstBy_43 rfl (by decide) rfl ?_
        refine aw_sub (lv' := [(0, .ref 58), (1, iI wt), (2, iI v26), (3, iI z)]) [0, 1, 2, 3] rfl ?_
        refine aw_iinc (i := 3) (q := 3) (x := z) (lv' := [(0, .ref 58), (1, iI wt), (2, iI v26), (3, iI (z + 1))]) [1, 2, 3, 0] dX7_worstBy_44 rfl (by decide) rfl ?_
        refine aw_goto (tgt := 4) dX7_worstBy_47 (by decide) ?_
        exact ih _ (z + 1) (i + 1) (mxA_step hg (a := v26) (by rw [← hz]; exact ha9) (by omega)) (by omega) (by omega) (by omega)
theorem s_X7_worstBy {mr : aR} (hR : Rok mr) {mi : aM} {wt : Int} (hwt : 0 ≤ wt ∧ wt < 120) (hrow : ∀ j : Int, wt ≤ j → j ≤ wt + 600 → -100000 ≤ mi 93 j ∧ mi 93 j ≤ 100000) (hrs : ∀ j : Int, 0 ≤ j → j < 601 → -100000 ≤ mi 94 j ∧ mi 94 j ≤ 100000) : SPg yX7_worstBy cX7_worstBy 5 (some .int) 2 [.ref 58, iI wt] mi mr (Pp mi mr (fun r => r = mxA (fun k : Nat => mi 93 (wt + k) + mi 94 k) 601)) := by
  refine SPg.pure rfl (by decide +kernel) (Nat.le_of_ble_eq_true rfl) ?_
  show AWm RX7 cX7_worstBy 5 2 _ 0 [(0, .ref 58), (1, iI wt)] [] mi mr
  refine aw_iconst dX7_worstBy_0 ?_
  refine aw_istore_n (i := 2) (lv' := [(0, .ref 58), (1, iI wt), (2, iI 0)]) [1, 2, 0] dX7_worstBy_1 rfl (by decide) rfl ?_
  refine aw_iconst dX7_worstBy_2 ?_
  refine aw_istore_n (i := 3) (lv' := [(0, .ref 58), (1, iI wt), (2, iI 0), (3, iI 0)]) [1, 2, 3, 0] dX7_worstBy_3 rfl (by decide) rfl ?_
  exact l_worst hR hwt hrow hrs 602 0 0 0 rfl rfl (by omega) (by omega)
