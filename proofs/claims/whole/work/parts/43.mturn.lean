-- part 43: the model: turned, farBehind, amplitudeAfter, turnsUntilLoud, forceBy, force, addEntry, dueTime, lastShift (printed by wip/whole/gen/p43.py)
theorem s_X7_turned {mr : aR} (hR : Rok mr) {mi : aM} {a mo g : Int} (ha : 0 ≤ a ∧ a ≤ 1000) (hmo : mo = 0 ∨ mo = 1) (hg : 0 ≤ g ∧ g ≤ 1000) : SPg yX7_turned cX7_turned 4 (some .int) 1 [iI a, iI mo, iI g] mi mr (Pp mi mr (fun r => r = trn a mo g)) := by
  refine SPg.pure rfl (by decide +kernel) (Nat.le_of_ble_eq_true rfl) ?_
  show AWm RX7 cX7_turned 4 1 _ 0 [(0, iI a), (1, iI mo), (2, iI g)] [] mi mr
  have e9 : (a * 30).tdiv 1000 = a * 30 / 1000 := Int.tdiv_eq_ediv_of_nonneg (by omega)
  refine aw_iload_n (i := 0) (q := 0) dX7_turned_0 rfl rfl ?_
  refine aw_iload_n (i := 0) (q := 0) dX7_turned_1 rfl rfl ?_
  refine aw_bipush (x := 30) dX7_turned_2 rfl ?_
  refine aw_imul dX7_turned_4 ?_
  refine aw_sipush (x := 1000) dX7_turned_5 rfl ?_
  refine aw_idiv dX7_turned_8 (by first | assumption | omega) (by decide) (by omega) (by omega) ?_
  refine aw_isub dX7_turned_9 ?_
  refine aw_iconst dX7_turned_10 ?_
  refine aw_isub dX7_turned_11 ?_
  refine aw_istore_n (i := 3) (lv' := [(0, iI a), (1, iI mo), (2, iI g), (3, iI ((a - ((a * 30).tdiv 1000)) - 2))]) [1, 2, 3, 0] dX7_turned_12 rfl (by decide) rfl ?_
  refine aw_iload_n (i := 3) (q := 3) dX7_turned_13 rfl rfl ?_
  refine aw_if_ge (tgt := 21) dX7_turned_14 (by decide) (by first | assumption | omega) (fun c14 => ?_) (fun c14 => ?_)
  · refine aw_iload_n (i := 3) (q := 3) dX7_turned_21 rfl rfl ?_
    refine aw_istore_n (i := 3) (lv' := [(0, iI a), (1, iI mo), (2, iI g), (3, iI ((a - ((a * 30).tdiv 1000)) - 2))]) [1, 2, 3, 0] dX7_turned_22 rfl (by decide) rfl ?_
    refine aw_iload_n (i := 1) (q := 1) dX7_turned_23 rfl rfl ?_
    refine aw_if_eq (tgt := 32) dX7_turned_24 (by decide) (by first | assumption | omega) (fun c24 => ?_) (fun c24 => ?_)
    · refine aw_iload_n (i := 3) (q := 3) dX7_turned_32 rfl rfl ?_
      exact aw_iret ⟨_, rfl, rfl, rfl, rfl, (by unfold trn; dsimp only; rw [e9] at *; (repeat' split) <;> omega)⟩ (Nat.le_refl _) (Nat.le_refl _) dX7_turned_33
    · refine aw_iload_n (i := 3) (q := 3) dX7_turned_27 rfl rfl ?_
      refine aw_iload_n (i := 2) (q := 2) dX7_turned_28 rfl rfl ?_
      refine aw_icmp_lt (tgt := 34) dX7_turned_29 (by decide) (by first | assumption | omega) (by first | assumption | omega) (fun c29 => ?_) (fun c29 => ?_)
      · refine aw_iload_n (i := 3) (q := 3) dX7_turned_34 rfl rfl ?_
        refine aw_bipush (x := 80) dX7_turned_35 rfl ?_
        refine aw_iadd dX7_turned_37 ?_
        refine aw_iload_n (i := 2) (q := 2) dX7_turned_38 rfl rfl ?_
        refine aw_icmp_le (tgt := 46) dX7_turned_39 (by decide) (by first | assumption | omega) (by first | assumption | omega) (fun c39 => ?_) (fun c39 => ?_)
        · refine aw_iload_n (i := 3) (q := 3) dX7_turned_46 rfl rfl ?_
          refine aw_bipush (x := 80) dX7_turned_47 rfl ?_
          refine aw_iadd dX7_turned_49 ?_
          exact aw_iret ⟨_, rfl, rfl, rfl, rfl, (by unfold trn; dsimp only; rw [e9] at *; (repeat' split) <;> omega)⟩ (Nat.le_refl _) (Nat.le_refl _) dX7_turned_50
        · refine aw_iload_n (i := 2) (q := 2) dX7_turned_42 rfl rfl ?_
          refine aw_goto (tgt := 50) dX7_turned_43 (by decide) ?_
          exact aw_iret ⟨_, rfl, rfl, rfl, rfl, (by unfold trn; dsimp only; rw [e9] at *; (repeat' split) <;> omega)⟩ (Nat.le_refl _) (Nat.le_refl _) dX7_turned_50
      · refine aw_iload_n (i := 3) (q := 3) dX7_turned_32 rfl rfl ?_
        exact aw_iret ⟨_, rfl, rfl, rfl, rfl, (by unfold trn; dsimp only; rw [e9] at *; (repeat' split) <;> omega)⟩ (Nat.le_refl _) (Nat.le_refl _) dX7_turned_33
  · refine aw_iconst dX7_turned_17 ?_
    refine aw_goto (tgt := 22) dX7_turned_18 (by decide) ?_
    refine aw_istore_n (i := 3) (lv' := [(0, iI a), (1, iI mo), (2, iI g), (3, iI 0)]) [1, 2, 3, 0] dX7_turned_22 rfl (by decide) rfl ?_
    refine aw_iload_n (i := 1) (q := 1) dX7_turned_23 rfl rfl ?_
    refine aw_if_eq (tgt := 32) dX7_turned_24 (by decide) (by first | assumption | omega) (fun c24 => ?_) (fun c24 => ?_)
    · refine aw_iload_n (i := 3) (q := 3) dX7_turned_32 rfl rfl ?_
      exact aw_iret ⟨_, rfl, rfl, rfl, rfl, (by unfold trn; dsimp only; rw [e9] at *; (repeat' split) <;> omega)⟩ (Nat.le_refl _) (Nat.le_refl _) dX7_turned_33
    · refine aw_iload_n (i := 3) (q := 3) dX7_turned_27 rfl rfl ?_
      refine aw_iload_n (i := 2) (q := 2) dX7_turned_28 rfl rfl ?_
      refine aw_icmp_lt (tgt := 34) dX7_turned_29 (by decide) (by decide) (by first | assumption | omega) (fun c29 => ?_) (fun c29 => ?_)
      · refine aw_iload_n (i := 3) (q := 3) dX7_turned_34 rfl rfl ?_
        refine aw_bipush (x := 80) dX7_turned_35 rfl ?_
        refine aw_iadd dX7_turned_37 ?_
        refine aw_iload_n (i := 2) (q := 2) dX7_turned_38 rfl rfl ?_
        refine aw_icmp_le (tgt := 46) dX7_turned_39 (by decide) (by first | assumption | omega) (by first | assumption | omega) (fun c39 => ?_) (fun c39 => ?_)
        · refine aw_iload_n (i := 3) (q := 3) dX7_turned_46 rfl rfl ?_
          refine aw_bipush (x := 80) dX7_turned_47 rfl ?_
          refine aw_iadd dX7_turned_49 ?_
          exact aw_iret ⟨_, rfl, rfl, rfl, rfl, (by unfold trn; dsimp only; rw [e9] at *; (repeat' split) <;> omega)⟩ (Nat.le_refl _) (Nat.le_refl _) dX7_turned_50
        · refine aw_iload_n (i := 2) (q := 2) dX7_turned_42 rfl rfl ?_
          refine aw_goto (tgt := 50) dX7_turned_43 (by decide) ?_
          exact aw_iret ⟨_, rfl, rfl, rfl, rfl, (by unfold trn; dsimp only; rw [e9] at *; (repeat' split) <;> omega)⟩ (Nat.le_refl _) (Nat.le_refl _) dX7_turned_50
      · refine aw_iload_n (i := 3) (q := 3) dX7_turned_32 rfl rfl ?_
        exact aw_iret ⟨_, rfl, rfl, rfl, rfl, (by unfold trn; dsimp only; rw [e9] at *; (repeat' split) <;> omega)⟩ (Nat.le_refl _) (Nat.le_refl _) dX7_turned_33
def mW (mi : aM) : Prop := ∀ i : Int, 0 ≤ i → i < mi 58 6 → (0 ≤ mi 89 i ∧ mi 89 i ≤ 1000) ∧ (mi 90 i = 1 ∨ mi 90 i = -1 ∨ mi 86 i = 0) ∧ (0 ≤ mi 91 i ∧ mi 91 i ≤ 1000) ∧ (0 ≤ mi 92 i ∧ mi 92 i ≤ 200100) ∧ (mi 86 i ≠ 0 → mi 58 9 < mi 92 i ∧ mi 92 i ≤ mi 58 9 + mi 62 i)
theorem ampF_rng {a mo g : Int} (ha : 0 ≤ a ∧ a ≤ 1000) (hg : 0 ≤ g ∧ g ≤ 1000) : ∀ n : Nat, 0 ≤ ampF a mo g n ∧ ampF a mo g n ≤ 1000
  | 0 => ha
  | n + 1 => trn_rng (ampF_rng ha hg n) hg
theorem l_far {mr : aR} (hR : Rok mr) {mi : aM} {b n9 : Int} (hb : 0 ≤ b ∧ b < 12) (ha : 0 ≤ mi 89 b ∧ mi 89 b ≤ 1000) (hm : mi 88 b = 0 ∨ mi 88 b = 1) (hg : 0 ≤ mi 91 b ∧ mi 91 b ≤ 1000) (hn9 : 0 ≤ n9 ∧ n9 ≤ 200) : ∀ (n : Nat) (g z : Int) (i : Nat), g = ampF (mi 89 b) (mi 88 b) (mi 91 b) i → z = (i : Int) → (0 ≤ z ∧ z ≤ n9) → n9 - z < n → AWm RX7 cX7_farBehind 5 2 (Pp mi mr (fun r => r = ampF (mi 89 b) (mi 88 b) (mi 91 b) n9.toNat)) 10 [(0, .ref 58), (1, iI b), (2, iI n9), (3, iI g), (4, iI z)] [] mi mr := by
  intro n
  induction n with
  | zero => intro g z i hgg hz h2 h3; omega
  | succ n ih =>
    intro g z i hgg hz h2 h3
    have har := ampF_rng (mo := mi 88 b) ha hg i
    refine aw_iload (i := 4) (q := 4) dX7_farBehind_10 rfl ?_
    refine aw_iload_n (i := 2) (q := 2) dX7_farBehind_12 rfl rfl ?_
    refine aw_icmp_ge (tgt := 39) dX7_farBehind_13 (by decide) (by first | assumption | omega) (by first | assumption | omega) (fun c13 => ?_) (fun c13 => ?_)
    · refine aw_iload_n (i := 3) (q := 3) dX7_farBehind_39 rfl rfl ?_
      exact aw_iret ⟨_, rfl, rfl, rfl, rfl, (by rw [hgg, show i = n9.toNat by omega])⟩ (Nat.le_refl _) (Nat.le_refl _) dX7_farBehind_40
    · refine aw_iload_n (i := 3) (q := 3) dX7_farBehind_16 rfl rfl ?_
      refine aw_aload_n (i := 0) (q := 0) dX7_farBehind_17 rfl rfl ?_
      refine aw_getR (r := 88) flX7_105 SH_58 (by decide) rfl (rk_58_46 hR) dX7_farBehind_18 ?_
      refine aw_iload_n (i := 1) (q := 1) dX7_farBehind_21 rfl rfl ?_
      refine aw_zaldv (x := mi 88 b) SH_88 (by decide) ⟨by omega, by omega⟩ rfl dX7_farBehind_22 (fun r22 => ?_)
      refine aw_aload_n (i := 0) (q := 0) dX7_farBehind_23 rfl rfl ?_
      refine aw_getR (r := 91) flX7_114 SH_58 (by decide) rfl (rk_58_49 hR) dX7_farBehind_24 ?_
      refine aw_iload_n (i := 1) (q := 1) dX7_farBehind_27 rfl rfl ?_
      refine aw_ialdv (x := mi 91 b) SH_91 (by decide) ⟨by omega, by omega⟩ rfl dX7_farBehind_28 (fun r28 => ?_)
      refine aw_cSp (As := [iI g, iI (mi 88 b), iI (mi 91 b)]) (st := []) clX7_294 (s_X7_turned hR (by omega) (by omega) (by omega)) rfl rfl (Nat.le_of_ble_eq_true rfl) (by decide) (by decide) (Nat.le_refl _) (Nat.le_refl _) dX7_farBehind_29 (fun v29 hv29 => ?_)
      refine aw_istore_n (i := 3) (lv' := [(0, .ref 58), (1, iI b), (2, iI n9), (3, iI v29), (4, iI z)]) [1, 2, 3, 0, 4] dX7_farBehind_32 rfl (by decide) rfl ?_
      refine aw_iinc (i := 4) (q := 4) (x := z) (lv' := [(0, .ref 58), (1, iI b), (2, iI n9), (3, iI v29), (4, iI (z + 1))]) [1, 2, 3, 4, 0] dX7_farBehind_33 rfl (by decide) rfl ?_
      refine aw_goto (tgt := 10) dX7_farBehind_36 (by decide) ?_
      exact ih _ _ (i + 1) (by show _ = trn (ampF (mi 89 b) (mi 88 b) (mi 91 b) i) _ _; rw [← hgg]; exact hv29) (by omega) (by omega) (by omega)
theorem s_X7_farBehind {mr : aR} (hR : Rok mr) {mi : aM} {b n9 : Int} (hb : 0 ≤ b ∧ b < 12) (ha : 0 ≤ mi 89 b ∧ mi 89 b ≤ 1000) (hm : mi 88 b = 0 ∨ mi 88 b = 1) (hg : 0 ≤ mi 91 b ∧ mi 91 b ≤ 1000) (hn9 : 0 ≤ n9 ∧ n9 ≤ 200) : SPg yX7_farBehind cX7_farBehind 5 (some .int) 2 [.ref 58, iI b, iI n9] mi mr (Pp mi mr (fun r => r = ampF (mi 89 b) (mi 88 b) (mi 91 b) n9.toNat)) := by
  refine SPg.pure rfl (by decide +kernel) (Nat.le_of_ble_eq_true rfl) ?_
  show AWm RX7 cX7_farBehind 5 2 _ 0 [(0, .ref 58), (1, iI b), (2, iI n9)] [] mi mr
  refine aw_aload_n (i := 0) (q := 0) dX7_farBehind_0 rfl rfl ?_
  refine aw_getR (r := 89) flX7_108 SH_58 (by decide) rfl (rk_58_47 hR) dX7_farBehind_1 ?_
  refine aw_iload_n (i := 1) (q := 1) dX7_farBehind_4 rfl rfl ?_
  refine aw_ialdv (x := mi 89 b) SH_89 (by decide) ⟨by omega, by omega⟩ rfl dX7_farBehind_5 (fun r5 => ?_)
  refine aw_istore_n (i := 3) (lv' := [(0, .ref 58), (1, iI b), (2, iI n9), (3, iI (mi 89 b))]) [1, 2, 3, 0] dX7_farBehind_6 rfl (by decide) rfl ?_
  refine aw_iconst dX7_farBehind_7 ?_
  refine aw_istore (i := 4) (lv' := [(0, .ref 58), (1, iI b), (2, iI n9), (3, iI (mi 89 b)), (4, iI 0)]) [1, 2, 3, 4, 0] dX7_farBehind_8 (by decide) rfl ?_
  exact l_far hR hb ha hm hg hn9 (n9.toNat + 1) (mi 89 b) 0 0 rfl rfl (by omega) (by omega)
theorem t_amplitudeAfter {mr : aR} (hR : Rok mr) {mi : aM} {b n9 : Int} (h_b : -2147483648 ≤ b ∧ b ≤ 2147483647) (h_n9 : -2147483648 ≤ n9 ∧ n9 ≤ 2147483647) (hB : mB mi) (hW : mW mi) : AWm RX7 cX7_amplitudeAfter 3 4 (Pi mr (fun r m => m = mi ∧ r = if 0 ≤ b ∧ b < mi 58 6 then (if 0 ≤ n9 ∧ n9 ≤ 200 then (if mi 86 b = 0 then -1 else ampF (mi 89 b) (mi 88 b) (mi 91 b) n9.toNat) else -3) else -2)) 5 [(0, .ref 58), (1, iI b), (2, iI n9)] [] mi mr := by
  have hn := hB.1
  refine aw_aload_n (i := 0) (q := 0) dX7_amplitudeAfter_5 rfl rfl ?_
  refine aw_iload_n (i := 1) (q := 1) dX7_amplitudeAfter_6 rfl rfl ?_
  refine aw_cVp (As := [iI b]) (st := []) clX7_149 (s_X7_isBell hR (by omega) (by first | omega | (rw [aup_k (a := 58) (x := 58) (j := 6) (by decide)]; omega))) SH_58 rfl (by decide) rfl rfl (Nat.le_of_ble_eq_true rfl) (by decide) (by decide) (Nat.le_refl _) (Nat.le_refl _) dX7_amplitudeAfter_7 (fun v7 hv7 => ?_)
  try rw [aup_k (a := 58) (x := 58) (j := 6) (by decide)] at hv7
  refine aw_if_ne (tgt := 16) dX7_amplitudeAfter_10 (by decide) (by first | assumption | omega) (fun c10 => ?_) (fun c10 => ?_)
  · refine aw_iload_n (i := 2) (q := 2) dX7_amplitudeAfter_16 rfl rfl ?_
    refine aw_i2l dX7_amplitudeAfter_17 (by first | assumption | omega) ?_
    refine aw_lconst (x := 0) dX7_amplitudeAfter_18 rfl ?_
    refine aw_ldc2 (x := 200) coX7_258 rfl dX7_amplitudeAfter_19 ?_
    refine aw_cSp (As := [lL n9, lL 0, lL 200]) (st := []) clX7_135 (s_X7_isIn hR (by omega) (by omega) (by omega)) rfl rfl (Nat.le_of_ble_eq_true rfl) (by decide) (by decide) (Nat.le_refl _) (Nat.le_refl _) dX7_amplitudeAfter_22 (fun v22 hv22 => ?_)
    refine aw_if_ne (tgt := 31) dX7_amplitudeAfter_25 (by decide) (by first | assumption | omega) (fun c25 => ?_) (fun c25 => ?_)
    · obtain ⟨q1, q2, q3, q4, q5⟩ := hW b (by omega) (by omega)
      have k86 := (hB.2.2 b (by omega) (by omega)).2.2.2.2.2.1
      refine aw_aload_n (i := 0) (q := 0) dX7_amplitudeAfter_31 rfl rfl ?_
      refine aw_getR (r := 86) flX7_99 SH_58 (by decide) rfl (rk_58_44 hR) dX7_amplitudeAfter_32 ?_
      refine aw_iload_n (i := 1) (q := 1) dX7_amplitudeAfter_35 rfl rfl ?_
      refine aw_zaldv (x := mi 86 b) SH_86 (by decide) ⟨by omega, by omega⟩ rfl dX7_amplitudeAfter_36 (fun r36 => ?_)
      refine aw_if_eq (tgt := 49) dX7_amplitudeAfter_37 (by decide) (by first | assumption | omega) (fun c37 => ?_) (fun c37 => ?_)
      · refine aw_iconst dX7_amplitudeAfter_49 ?_
        exact aw_iret ⟨_, rfl, rfl, rfl, rfl, (by (repeat' split) <;> omega)⟩ (Nat.le_refl _) (Nat.le_refl _) dX7_amplitudeAfter_50
      · refine aw_aload_n (i := 0) (q := 0) dX7_amplitudeAfter_40 rfl rfl ?_
        refine aw_iload_n (i := 1) (q := 1) dX7_amplitudeAfter_41 rfl rfl ?_
        refine aw_iload_n (i := 2) (q := 2) dX7_amplitudeAfter_42 rfl rfl ?_
        refine aw_cVp (As := [iI b, iI n9]) (st := []) clX7_330 (s_X7_farBehind hR (by omega) q1 (hB.2.2 b (by omega) (by omega)).2.2.2.2.2.2.2 q3 (by omega)) SH_58 rfl (by decide) rfl rfl (Nat.le_of_ble_eq_true rfl) (by decide) (by decide) (Nat.le_refl _) (Nat.le_refl _) dX7_amplitudeAfter_43 (fun v43 hv43 => ?_)
        refine aw_goto (tgt := 50) dX7_amplitudeAfter_46 (by decide) ?_
        exact aw_iret ⟨_, rfl, rfl, rfl, rfl, (by rw [if_pos (by omega), if_pos (by omega), if_neg (by omega)]; exact hv43)⟩ (Nat.le_refl _) (Nat.le_refl _) dX7_amplitudeAfter_50
    · refine aw_bipush (x := -3) dX7_amplitudeAfter_28 rfl ?_
      exact aw_iret ⟨_, rfl, rfl, rfl, rfl, (by (repeat' split) <;> omega)⟩ (Nat.le_refl _) (Nat.le_refl _) dX7_amplitudeAfter_30
  · refine aw_bipush (x := -2) dX7_amplitudeAfter_13 rfl ?_
    exact aw_iret ⟨_, rfl, rfl, rfl, rfl, (by (repeat' split) <;> omega)⟩ (Nat.le_refl _) (Nat.le_refl _) dX7_amplitudeAfter_15
theorem s_X7_amplitudeAfter {mr : aR} (hR : Rok mr) {mi : aM} {b n9 : Int} (h_b : -2147483648 ≤ b ∧ b ≤ 2147483647) (h_n9 : -2147483648 ≤ n9 ∧ n9 ≤ 2147483647) (hB : mB (aup mi 58 0 0)) (hW : mW (aup mi 58 0 0)) : SPg yX7_amplitudeAfter cX7_amplitudeAfter 3 (some .int) 4 [.ref 58, iI b, iI n9] mi mr (Pi mr (fun r m => m = (aup mi 58 0 0) ∧ r = if 0 ≤ b ∧ b < (aup mi 58 0 0) 58 6 then (if 0 ≤ n9 ∧ n9 ≤ 200 then (if (aup mi 58 0 0) 86 b = 0 then -1 else ampF ((aup mi 58 0 0) 89 b) ((aup mi 58 0 0) 88 b) ((aup mi 58 0 0) 91 b) n9.toNat) else -3) else -2)) := by
  refine SPg.int rfl (by decide +kernel) (Nat.le_of_ble_eq_true rfl) ?_
  show AWm RX7 cX7_amplitudeAfter 3 4 _ 0 [(0, .ref 58), (1, iI b), (2, iI n9)] [] mi mr
  refine aw_aload_n (i := 0) (q := 0) dX7_amplitudeAfter_0 rfl rfl ?_
  refine aw_iconst dX7_amplitudeAfter_1 ?_
  refine aw_putIk 0 flX7_1 SH_58 (by decide) rfl rfl rfl (by decide) dX7_amplitudeAfter_2 ?_
  exact t_amplitudeAfter (mi := aup mi 58 0 0) hR h_b h_n9 hB hW
theorem l_mtul {mr : aR} (hR : Rok mr) {mi : aM} {b : Int} (hB : mB mi) (hW : mW mi) (hb : 0 ≤ b ∧ b < mi 58 6) : ∀ (n : Nat) (z : Int), (∀ k : Nat, 1 ≤ k → (k : Int) < z → ampF (mi 89 b) (mi 88 b) (mi 91 b) k < 400) → (1 ≤ z ∧ z ≤ 201) → 201 - z < n → AWm RX7 cX7_turnsUntilLoud 3 3 (Pi mr (fun r m => m = mi ∧ ((¬ (0 ≤ b ∧ b < mi 58 6) ∧ r = -2) ∨ ((0 ≤ b ∧ b < mi 58 6) ∧ ((mi 86 b = 0 ∧ r = -1) ∨ (mi 86 b ≠ 0 ∧ ((r = -1 ∧ ∀ k : Nat, 1 ≤ k → k ≤ 200 → ampF (mi 89 b) (mi 88 b) (mi 91 b) k < 400) ∨ (1 ≤ r ∧ r ≤ 200 ∧ 400 ≤ ampF (mi 89 b) (mi 88 b) (mi 91 b) r.toNat ∧ ∀ k : Nat, 1 ≤ k → (k : Int) < r → ampF (mi 89 b) (mi 88 b) (mi 91 b) k < 400)))))))) 18 [(0, .ref 58), (1, iI b), (2, iI z)] [] mi mr := by
  intro n
  induction n with
  | zero => intro z hlow h2 h3; omega
  | succ n ih =>
    intro z hlow h2 h3
    have hn := hB.1
    obtain ⟨q1, q2, q3, q4, q5⟩ := hW b hb.1 hb.2
    have k86 := (hB.2.2 b hb.1 hb.2).2.2.2.2.2.1
    have har := ampF_rng (mo := mi 88 b) q1 q3 z.toNat
    refine aw_iload_n (i := 2) (q := 2) dX7_turnsUntilLoud_18 rfl rfl ?_
    refine aw_sipush (x := 200) dX7_turnsUntilLoud_19 rfl ?_
    refine aw_icmp_gt (tgt := 54) dX7_turnsUntilLoud_22 (by decide) (by first | assumption | omega) (by decide) (fun c22 => ?_) (fun c22 => ?_)
    · refine aw_iconst dX7_turnsUntilLoud_54 ?_
      exact aw_iret ⟨_, rfl, rfl, rfl, rfl, Or.inr ⟨hb, (by by_cases q : mi 86 b = 0; (exact Or.inl ⟨q, rfl⟩); (exact Or.inr ⟨q, Or.inl ⟨rfl, fun k k1 k2 => hlow k k1 (by omega)⟩⟩))⟩⟩ (Nat.le_refl _) (Nat.le_refl _) dX7_turnsUntilLoud_55
    · refine aw_aload_n (i := 0) (q := 0) dX7_turnsUntilLoud_25 rfl rfl ?_
      refine aw_getR (r := 86) flX7_99 SH_58 (by decide) rfl (rk_58_44 hR) dX7_turnsUntilLoud_26 ?_
      refine aw_iload_n (i := 1) (q := 1) dX7_turnsUntilLoud_29 rfl rfl ?_
      refine aw_zaldv (x := mi 86 b) SH_86 (by decide) ⟨by omega, by omega⟩ rfl dX7_turnsUntilLoud_30 (fun r30 => ?_)
      refine aw_if_eq (tgt := 54) dX7_turnsUntilLoud_31 (by decide) (by first | assumption | omega) (fun c31 => ?_) (fun c31 => ?_)
      · refine aw_iconst dX7_turnsUntilLoud_54 ?_
        exact aw_iret ⟨_, rfl, rfl, rfl, rfl, Or.inr ⟨hb, (by by_cases q : mi 86 b = 0; (exact Or.inl ⟨q, rfl⟩); (exact Or.inr ⟨q, Or.inl ⟨rfl, fun k k1 k2 => hlow k k1 (by omega)⟩⟩))⟩⟩ (Nat.le_refl _) (Nat.le_refl _) dX7_turnsUntilLoud_55
      · refine aw_aload_n (i := 0) (q := 0) dX7_turnsUntilLoud_34 rfl rfl ?_
        refine aw_iload_n (i := 1) (q := 1) dX7_turnsUntilLoud_35 rfl rfl ?_
        refine aw_iload_n (i := 2) (q := 2) dX7_turnsUntilLoud_36 rfl rfl ?_
        refine aw_cVp (As := [iI b, iI z]) (st := []) clX7_330 (s_X7_farBehind hR (by omega) q1 (hB.2.2 b (by omega) (by omega)).2.2.2.2.2.2.2 q3 (by omega)) SH_58 rfl (by decide) rfl rfl (Nat.le_of_ble_eq_true rfl) (by decide) (by decide) (Nat.le_refl _) (Nat.le_refl _) dX7_turnsUntilLoud_37 (fun v37 hv37 => ?_)
        refine aw_sipush (x := 400) dX7_turnsUntilLoud_40 rfl ?_
        refine aw_icmp_lt (tgt := 48) dX7_turnsUntilLoud_43 (by decide) (by first | assumption | omega) (by decide) (fun c43 => ?_) (fun c43 => ?_)
        · refine aw_iinc (i := 2) (q := 2) (x := z) (lv' := [(0, .ref 58), (1, iI b), (2, iI (z + 1))]) [1, 2, 0] dX7_turnsUntilLoud_48 rfl (by decide) rfl ?_
          refine aw_goto (tgt := 18) dX7_turnsUntilLoud_51 (by decide) ?_
          exact ih (z + 1) (fun k k1 k2 => by by_cases e9 : k = z.toNat; (subst e9; rw [← hv37]; omega); (exact hlow k k1 (by omega))) (by omega) (by omega)
        · refine aw_iload_n (i := 2) (q := 2) dX7_turnsUntilLoud_46 rfl rfl ?_
          exact aw_iret ⟨_, rfl, rfl, rfl, rfl, Or.inr ⟨hb, Or.inr ⟨by omega, Or.inr ⟨by omega, by omega, by rw [← hv37]; omega, hlow⟩⟩⟩⟩ (Nat.le_refl _) (Nat.le_refl _) dX7_turnsUntilLoud_47
theorem t_turnsUntilLoud {mr : aR} (hR : Rok mr) {mi : aM} {b : Int} (h_b : -2147483648 ≤ b ∧ b ≤ 2147483647) (hB : mB mi) (hW : mW mi) : AWm RX7 cX7_turnsUntilLoud 3 3 (Pi mr (fun r m => m = mi ∧ ((¬ (0 ≤ b ∧ b < mi 58 6) ∧ r = -2) ∨ ((0 ≤ b ∧ b < mi 58 6) ∧ ((mi 86 b = 0 ∧ r = -1) ∨ (mi 86 b ≠ 0 ∧ ((r = -1 ∧ ∀ k : Nat, 1 ≤ k → k ≤ 200 → ampF (mi 89 b) (mi 88 b) (mi 91 b) k < 400) ∨ (1 ≤ r ∧ r ≤ 200 ∧ 400 ≤ ampF (mi 89 b) (mi 88 b) (mi 91 b) r.toNat ∧ ∀ k : Nat, 1 ≤ k → (k : Int) < r → ampF (mi 89 b) (mi 88 b) (mi 91 b) k < 400)))))))) 5 [(0, .ref 58), (1, iI b)] [] mi mr := by
  have hn := hB.1
  refine aw_aload_n (i := 0) (q := 0) dX7_turnsUntilLoud_5 rfl rfl ?_
  refine aw_iload_n (i := 1) (q := 1) dX7_turnsUntilLoud_6 rfl rfl ?_
  refine aw_cVp (As := [iI b]) (st := []) clX7_149 (s_X7_isBell hR (by omega) (by first | omega | (rw [aup_k (a := 58) (x := 58) (j := 6) (by decide)]; omega))) SH_58 rfl (by decide) rfl rfl (Nat.le_of_ble_eq_true rfl) (by decide) (by decide) (Nat.le_refl _) (Nat.le_refl _) dX7_turnsUntilLoud_7 (fun v7 hv7 => ?_)
  try rw [aup_k (a := 58) (x := 58) (j := 6) (by decide)] at hv7
  refine aw_if_ne (tgt := 16) dX7_turnsUntilLoud_10 (by decide) (by first | assumption | omega) (fun c10 => ?_) (fun c10 => ?_)
  · refine aw_iconst dX7_turnsUntilLoud_16 ?_
    refine aw_istore_n (i := 2) (lv' := [(0, .ref 58), (1, iI b), (2, iI 1)]) [1, 2, 0] dX7_turnsUntilLoud_17 rfl (by decide) rfl ?_
    exact l_mtul hR hB hW ⟨by omega, by omega⟩ 201 1 (fun k k1 k2 => by omega) (by omega) (by omega)
  · refine aw_bipush (x := -2) dX7_turnsUntilLoud_13 rfl ?_
    exact aw_iret ⟨_, rfl, rfl, rfl, rfl, Or.inl ⟨by omega, rfl⟩⟩ (Nat.le_refl _) (Nat.le_refl _) dX7_turnsUntilLoud_15
theorem s_X7_turnsUntilLoud {mr : aR} (hR : Rok mr) {mi : aM} {b : Int} (h_b : -2147483648 ≤ b ∧ b ≤ 2147483647) (hB : mB (aup mi 58 0 0)) (hW : mW (aup mi 58 0 0)) : SPg yX7_turnsUntilLoud cX7_turnsUntilLoud 3 (some .int) 3 [.ref 58, iI b] mi mr (Pi mr (fun r m => m = (aup mi 58 0 0) ∧ ((¬ (0 ≤ b ∧ b < (aup mi 58 0 0) 58 6) ∧ r = -2) ∨ ((0 ≤ b ∧ b < (aup mi 58 0 0) 58 6) ∧ (((aup mi 58 0 0) 86 b = 0 ∧ r = -1) ∨ ((aup mi 58 0 0) 86 b ≠ 0 ∧ ((r = -1 ∧ ∀ k : Nat, 1 ≤ k → k ≤ 200 → ampF ((aup mi 58 0 0) 89 b) ((aup mi 58 0 0) 88 b) ((aup mi 58 0 0) 91 b) k < 400) ∨ (1 ≤ r ∧ r ≤ 200 ∧ 400 ≤ ampF ((aup mi 58 0 0) 89 b) ((aup mi 58 0 0) 88 b) ((aup mi 58 0 0) 91 b) r.toNat ∧ ∀ k : Nat, 1 ≤ k → (k : Int) < r → ampF ((aup mi 58 0 0) 89 b) ((aup mi 58 0 0) 88 b) ((aup mi 58 0 0) 91 b) k < 400)))))))) := by
  refine SPg.int rfl (by decide +kernel) (Nat.le_of_ble_eq_true rfl) ?_
  show AWm RX7 cX7_turnsUntilLoud 3 3 _ 0 [(0, .ref 58), (1, iI b)] [] mi mr
  refine aw_aload_n (i := 0) (q := 0) dX7_turnsUntilLoud_0 rfl rfl ?_
  refine aw_iconst dX7_turnsUntilLoud_1 ?_
  refine aw_putIk 0 flX7_1 SH_58 (by decide) rfl rfl rfl (by decide) dX7_turnsUntilLoud_2 ?_
  exact t_turnsUntilLoud (mi := aup mi 58 0 0) hR h_b hB hW
theorem t_dueTime {mr : aR} (hR : Rok mr) {mi : aM} {i : Int} (h_i : -2147483648 ≤ i ∧ i ≤ 2147483647) (h8 : 0 ≤ mi 58 42 ∧ mi 58 42 ≤ 8) : AWm RX7 cX7_dueTime 2 3 (Pi mr (fun r m => m = mi ∧ r = if 0 ≤ i ∧ i < mi 58 42 then mi 81 i else -2)) 5 [(0, .ref 58), (1, iI i)] [] mi mr := by
  refine aw_aload_n (i := 0) (q := 0) dX7_dueTime_5 rfl rfl ?_
  refine aw_iload_n (i := 1) (q := 1) dX7_dueTime_6 rfl rfl ?_
  refine aw_cVp (As := [iI i]) (st := []) clX7_282 (s_X7_isEntry hR (by omega) (by first | omega | (rw [aup_k (a := 58) (x := 58) (j := 42) (by decide)]; omega))) SH_58 rfl (by decide) rfl rfl (Nat.le_of_ble_eq_true rfl) (by decide) (by decide) (Nat.le_refl _) (Nat.le_refl _) dX7_dueTime_7 (fun v7 hv7 => ?_)
  try rw [aup_k (a := 58) (x := 58) (j := 42) (by decide)] at hv7
  refine aw_if_eq (tgt := 22) dX7_dueTime_10 (by decide) (by first | assumption | omega) (fun c10 => ?_) (fun c10 => ?_)
  · refine aw_bipush (x := -2) dX7_dueTime_22 rfl ?_
    exact aw_iret ⟨_, rfl, rfl, rfl, rfl, (by (repeat' split) <;> omega)⟩ (Nat.le_refl _) (Nat.le_refl _) dX7_dueTime_24
  · refine aw_aload_n (i := 0) (q := 0) dX7_dueTime_13 rfl rfl ?_
    refine aw_getR (r := 81) flX7_84 SH_58 (by decide) rfl (rk_58_37 hR) dX7_dueTime_14 ?_
    refine aw_iload_n (i := 1) (q := 1) dX7_dueTime_17 rfl rfl ?_
    refine aw_ialdv (x := mi 81 i) SH_81 (by decide) ⟨by omega, by omega⟩ rfl dX7_dueTime_18 (fun r18 => ?_)
    refine aw_goto (tgt := 24) dX7_dueTime_19 (by decide) ?_
    exact aw_iret ⟨_, rfl, rfl, rfl, rfl, (by (repeat' split) <;> omega)⟩ (Nat.le_refl _) (Nat.le_refl _) dX7_dueTime_24
theorem s_X7_dueTime {mr : aR} (hR : Rok mr) {mi : aM} {i : Int} (h_i : -2147483648 ≤ i ∧ i ≤ 2147483647) (h8 : 0 ≤ (aup mi 58 0 0) 58 42 ∧ (aup mi 58 0 0) 58 42 ≤ 8) : SPg yX7_dueTime cX7_dueTime 2 (some .int) 3 [.ref 58, iI i] mi mr (Pi mr (fun r m => m = (aup mi 58 0 0) ∧ r = if 0 ≤ i ∧ i < (aup mi 58 0 0) 58 42 then (aup mi 58 0 0) 81 i else -2)) := by
  refine SPg.int rfl (by decide +kernel) (Nat.le_of_ble_eq_true rfl) ?_
  show AWm RX7 cX7_dueTime 2 3 _ 0 [(0, .ref 58), (1, iI i)] [] mi mr
  refine aw_aload_n (i := 0) (q := 0) dX7_dueTime_0 rfl rfl ?_
  refine aw_iconst dX7_dueTime_1 ?_
  refine aw_putIk 0 flX7_1 SH_58 (by decide) rfl rfl rfl (by decide) dX7_dueTime_2 ?_
  exact t_dueTime (mi := aup mi 58 0 0) hR h_i h8
theorem t_lastShift {mr : aR} (hR : Rok mr) {mi : aM} {i : Int} (h_i : -2147483648 ≤ i ∧ i ≤ 2147483647) (h8 : 0 ≤ mi 58 42 ∧ mi 58 42 ≤ 8) : AWm RX7 cX7_lastShift 2 3 (Pi mr (fun r m => m = mi ∧ r = if 0 ≤ i ∧ i < mi 58 42 then mi 85 i else -2)) 5 [(0, .ref 58), (1, iI i)] [] mi mr := by
  refine aw_aload_n (i := 0) (q := 0) dX7_lastShift_5 rfl rfl ?_
  refine aw_iload_n (i := 1) (q := 1) dX7_lastShift_6 rfl rfl ?_
  refine aw_cVp (As := [iI i]) (st := []) clX7_282 (s_X7_isEntry hR (by omega) (by first | omega | (rw [aup_k (a := 58) (x := 58) (j := 42) (by decide)]; omega))) SH_58 rfl (by decide) rfl rfl (Nat.le_of_ble_eq_true rfl) (by decide) (by decide) (Nat.le_refl _) (Nat.le_refl _) dX7_lastShift_7 (fun v7 hv7 => ?_)
  try rw [aup_k (a := 58) (x := 58) (j := 42) (by decide)] at hv7
  refine aw_if_eq (tgt := 22) dX7_lastShift_10 (by decide) (by first | assumption | omega) (fun c10 => ?_) (fun c10 => ?_)
  · refine aw_bipush (x := -2) dX7_lastShift_22 rfl ?_
    exact aw_iret ⟨_, rfl, rfl, rfl, rfl, (by (repeat' split) <;> omega)⟩ (Nat.le_refl _) (Nat.le_refl _) dX7_lastShift_24
  · refine aw_aload_n (i := 0) (q := 0) dX7_lastShift_13 rfl rfl ?_
    refine aw_getR (r := 85) flX7_96 SH_58 (by decide) rfl (rk_58_41 hR) dX7_lastShift_14 ?_
    refine aw_iload_n (i := 1) (q := 1) dX7_lastShift_17 rfl rfl ?_
    refine aw_ialdv (x := mi 85 i) SH_85 (by decide) ⟨by omega, by omega⟩ rfl dX7_lastShift_18 (fun r18 => ?_)
    refine aw_goto (tgt := 24) dX7_lastShift_19 (by decide) ?_
    exact aw_iret ⟨_, rfl, rfl, rfl, rfl, (by (repeat' split) <;> omega)⟩ (Nat.le_refl _) (Nat.le_refl _) dX7_lastShift_24
theorem s_X7_lastShift {mr : aR} (hR : Rok mr) {mi : aM} {i : Int} (h_i : -2147483648 ≤ i ∧ i ≤ 2147483647) (h8 : 0 ≤ (aup mi 58 0 0) 58 42 ∧ (aup mi 58 0 0) 58 42 ≤ 8) : SPg yX7_lastShift cX7_lastShift 2 (some .int) 3 [.ref 58, iI i] mi mr (Pi mr (fun r m => m = (aup mi 58 0 0) ∧ r = if 0 ≤ i ∧ i < (aup mi 58 0 0) 58 42 then (aup mi 58 0 0) 85 i else -2)) := by
  refine SPg.int rfl (by decide +kernel) (Nat.le_of_ble_eq_true rfl) ?_
  show AWm RX7 cX7_lastShift 2 3 _ 0 [(0, .ref 58), (1, iI i)] [] mi mr
  refine aw_aload_n (i := 0) (q := 0) dX7_lastShift_0 rfl rfl ?_
  refine aw_iconst dX7_lastShift_1 ?_
  refine aw_putIk 0 flX7_1 SH_58 (by decide) rfl rfl rfl (by decide) dX7_lastShift_2 ?_
  exact t_lastShift (mi := aup mi 58 0 0) hR h_i h8
theorem t_addEntry {mr : aR} (hR : Rok mr) {mi : aM} {w T P s W : Int} (h_w : -2147483648 ≤ w ∧ w ≤ 2147483647) (h_T : -2147483648 ≤ T ∧ T ≤ 2147483647) (h_P : -2147483648 ≤ P ∧ P ≤ 2147483647) (h_s : -2147483648 ≤ s ∧ s ≤ 2147483647) (h_W : -2147483648 ≤ W ∧ W ≤ 2147483647) (h8 : 0 ≤ mi 58 42 ∧ mi 58 42 ≤ 8) : AWm RX7 cX7_addEntry 6 3 (Pi mr (fun r m => r = (if 0 ≤ w ∧ w < 5 then (if ((0 ≤ T ∧ T ≤ 100000) ∧ (P = 0 ∨ (200 ≤ P ∧ P ≤ 50000)) ∧ (1 ≤ s ∧ s ≤ 200) ∧ (0 ≤ W ∧ W ≤ 500)) then (if mi 58 42 < 8 then mi 58 42 else -4) else -3) else -2) ∧ (r < 0 → m = mi) ∧ (0 ≤ r → m = aup (aup (aup (aup (aup (aup (aup mi 80 (mi 58 42) w) 81 (mi 58 42) T) 82 (mi 58 42) P) 83 (mi 58 42) s) 84 (mi 58 42) W) 85 (mi 58 42) (-1)) 58 42 (mi 58 42 + 1)))) 5 [(0, .ref 58), (1, iI w), (2, iI T), (3, iI P), (4, iI s), (5, iI W)] [] mi mr := by
  refine aw_iload_n (i := 1) (q := 1) dX7_addEntry_5 rfl rfl ?_
  refine aw_cSp (As := [iI w]) (st := []) clX7_252 (s_X7_isPattern hR (by omega)) rfl rfl (Nat.le_of_ble_eq_true rfl) (by decide) (by decide) (Nat.le_refl _) (Nat.le_refl _) dX7_addEntry_6 (fun v6 hv6 => ?_)
  refine aw_if_ne (tgt := 15) dX7_addEntry_9 (by decide) (by first | assumption | omega) (fun c9 => ?_) (fun c9 => ?_)
  · refine aw_iload_n (i := 2) (q := 2) dX7_addEntry_15 rfl rfl ?_
    refine aw_i2l dX7_addEntry_16 (by first | assumption | omega) ?_
    refine aw_lconst (x := 0) dX7_addEntry_17 rfl ?_
    refine aw_ldc2 (x := 100000) coX7_169 rfl dX7_addEntry_18 ?_
    refine aw_cSp (As := [lL T, lL 0, lL 100000]) (st := []) clX7_135 (s_X7_isIn hR (by omega) (by omega) (by omega)) rfl rfl (Nat.le_of_ble_eq_true rfl) (by decide) (by decide) (Nat.le_refl _) (Nat.le_refl _) dX7_addEntry_21 (fun v21 hv21 => ?_)
    refine aw_if_eq (tgt := 71) dX7_addEntry_24 (by decide) (by first | assumption | omega) (fun c24 => ?_) (fun c24 => ?_)
    · refine aw_bipush (x := -3) dX7_addEntry_71 rfl ?_
      exact aw_iret ⟨_, rfl, rfl, rfl, (by (repeat' split) <;> omega), (fun _ => rfl), (fun h => by omega)⟩ (Nat.le_refl _) (Nat.le_refl _) dX7_addEntry_73
    · refine aw_iload_n (i := 3) (q := 3) dX7_addEntry_27 rfl rfl ?_
      refine aw_if_eq (tgt := 45) dX7_addEntry_28 (by decide) (by first | assumption | omega) (fun c28 => ?_) (fun c28 => ?_)
      · refine aw_iload (i := 4) (q := 4) dX7_addEntry_45 rfl ?_
        refine aw_i2l dX7_addEntry_47 (by first | assumption | omega) ?_
        refine aw_lconst (x := 1) dX7_addEntry_48 rfl ?_
        refine aw_ldc2 (x := 200) coX7_258 rfl dX7_addEntry_49 ?_
        refine aw_cSp (As := [lL s, lL 1, lL 200]) (st := []) clX7_135 (s_X7_isIn hR (by omega) (by omega) (by omega)) rfl rfl (Nat.le_of_ble_eq_true rfl) (by decide) (by decide) (Nat.le_refl _) (Nat.le_refl _) dX7_addEntry_52 (fun v52 hv52 => ?_)
        refine aw_if_eq (tgt := 71) dX7_addEntry_55 (by decide) (by first | assumption | omega) (fun c55 => ?_) (fun c55 => ?_)
        · refine aw_bipush (x := -3) dX7_addEntry_71 rfl ?_
          exact aw_iret ⟨_, rfl, rfl, rfl, (by (repeat' split) <;> omega), (fun _ => rfl), (fun h => by omega)⟩ (Nat.le_refl _) (Nat.le_refl _) dX7_addEntry_73
        · refine aw_iload (i := 5) (q := 5) dX7_addEntry_58 rfl ?_
          refine aw_i2l dX7_addEntry_60 (by first | assumption | omega) ?_
          refine aw_lconst (x := 0) dX7_addEntry_61 rfl ?_
          refine aw_ldc2 (x := 500) coX7_264 rfl dX7_addEntry_62 ?_
          refine aw_cSp (As := [lL W, lL 0, lL 500]) (st := []) clX7_135 (s_X7_isIn hR (by omega) (by omega) (by omega)) rfl rfl (Nat.le_of_ble_eq_true rfl) (by decide) (by decide) (Nat.le_refl _) (Nat.le_refl _) dX7_addEntry_65 (fun v65 hv65 => ?_)
          refine aw_if_ne (tgt := 74) dX7_addEntry_68 (by decide) (by first | assumption | omega) (fun c68 => ?_) (fun c68 => ?_)
          · refine aw_aload_n (i := 0) (q := 0) dX7_addEntry_74 rfl rfl ?_
            refine aw_getIk (x := mi 58 42) 42 flX7_277 SH_58 (by decide) rfl rfl rfl dX7_addEntry_75 (fun r75 => ?_)
            refine aw_bipush (x := 8) dX7_addEntry_78 rfl ?_
            refine aw_icmp_ne (tgt := 86) dX7_addEntry_80 (by decide) (by first | assumption | omega) (by decide) (fun c80 => ?_) (fun c80 => ?_)
            · refine aw_aload_n (i := 0) (q := 0) dX7_addEntry_86 rfl rfl ?_
              refine aw_getR (r := 80) flX7_81 SH_58 (by decide) rfl (rk_58_36 hR) dX7_addEntry_87 ?_
              refine aw_aload_n (i := 0) (q := 0) dX7_addEntry_90 rfl rfl ?_
              refine aw_getIk (x := mi 58 42) 42 flX7_277 SH_58 (by decide) rfl rfl rfl dX7_addEntry_91 (fun r91 => ?_)
              refine aw_iload_n (i := 1) (q := 1) dX7_addEntry_94 rfl rfl ?_
              refine aw_iast SH_80 (by decide) ⟨by omega, by omega⟩ (by first | assumption | omega) dX7_addEntry_95 ?_
              refine aw_aload_n (i := 0) (q := 0) dX7_addEntry_96 rfl rfl ?_
              refine aw_getR (r := 81) flX7_84 SH_58 (by decide) rfl (rk_58_37 hR) dX7_addEntry_97 ?_
              refine aw_aload_n (i := 0) (q := 0) dX7_addEntry_100 rfl rfl ?_
              refine aw_getIk (x := mi 58 42) 42 flX7_277 SH_58 (by decide) rfl rfl (by (rw [aup_a (by decide)]) <;> rfl) dX7_addEntry_101 (fun r101 => ?_)
              refine aw_iload_n (i := 2) (q := 2) dX7_addEntry_104 rfl rfl ?_
              refine aw_iast SH_81 (by decide) ⟨by omega, by omega⟩ (by first | assumption | omega) dX7_addEntry_105 ?_
              refine aw_aload_n (i := 0) (q := 0) dX7_addEntry_106 rfl rfl ?_
              refine aw_getR (r := 82) flX7_87 SH_58 (by decide) rfl (rk_58_38 hR) dX7_addEntry_107 ?_
              refine aw_aload_n (i := 0) (q := 0) dX7_addEntry_110 rfl rfl ?_
              refine aw_getIk (x := mi 58 42) 42 flX7_277 SH_58 (by decide) rfl rfl (by (rw [aup_a (by decide), aup_a (by decide)]) <;> rfl) dX7_addEntry_111 (fun r111 => ?_)
              refine aw_iload_n (i := 3) (q := 3) dX7_addEntry_114 rfl rfl ?_
              refine aw_iast SH_82 (by decide) ⟨by omega, by omega⟩ (by first | assumption | omega) dX7_addEntry_115 ?_
              refine aw_aload_n (i := 0) (q := 0) dX7_addEntry_116 rfl rfl ?_
              refine aw_getR (r := 83) flX7_90 SH_58 (by decide) rfl (rk_58_39 hR) dX7_addEntry_117 ?_
              refine aw_aload_n (i := 0) (q := 0) dX7_addEntry_120 rfl rfl ?_
              refine aw_getIk (x := mi 58 42) 42 flX7_277 SH_58 (by decide) rfl rfl (by (rw [aup_a (by decide), aup_a (by decide), aup_a (by decide)]) <;> rfl) dX7_addEntry_121 (fun r121 => ?_)
              refine aw_iload (i := 4) (q := 4) dX7_addEntry_124 rfl ?_
              refine aw_iast SH_83 (by decide) ⟨by omega, by omega⟩ (by first | assumption | omega) dX7_addEntry_126 ?_
              refine aw_aload_n (i := 0) (q := 0) dX7_addEntry_127 rfl rfl ?_
              refine aw_getR (r := 84) flX7_93 SH_58 (by decide) rfl (rk_58_40 hR) dX7_addEntry_128 ?_
              refine aw_aload_n (i := 0) (q := 0) dX7_addEntry_131 rfl rfl ?_
              refine aw_getIk (x := mi 58 42) 42 flX7_277 SH_58 (by decide) rfl rfl (by (rw [aup_a (by decide), aup_a (by decide), aup_a (by decide), aup_a (by decide)]) <;> rfl) dX7_addEntry_132 (fun r132 => ?_)
              refine aw_iload (i := 5) (q := 5) dX7_addEntry_135 rfl ?_
              refine aw_iast SH_84 (by decide) ⟨by omega, by omega⟩ (by first | assumption | omega) dX7_addEntry_137 ?_
              refine aw_aload_n (i := 0) (q := 0) dX7_addEntry_138 rfl rfl ?_
              refine aw_getR (r := 85) flX7_96 SH_58 (by decide) rfl (rk_58_41 hR) dX7_addEntry_139 ?_
              refine aw_aload_n (i := 0) (q := 0) dX7_addEntry_142 rfl rfl ?_
              refine aw_getIk (x := mi 58 42) 42 flX7_277 SH_58 (by decide) rfl rfl (by (rw [aup_a (by decide), aup_a (by decide), aup_a (by decide), aup_a (by decide), aup_a (by decide)]) <;> rfl) dX7_addEntry_143 (fun r143 => ?_)
              refine aw_iconst dX7_addEntry_146 ?_
              refine aw_iast SH_85 (by decide) ⟨by omega, by omega⟩ (by decide) dX7_addEntry_147 ?_
              refine aw_aload_n (i := 0) (q := 0) dX7_addEntry_148 rfl rfl ?_
              refine aw_dup dX7_addEntry_149 rfl ?_
              refine aw_getIk (x := mi 58 42) 42 flX7_277 SH_58 (by decide) rfl rfl (by (rw [aup_a (by decide), aup_a (by decide), aup_a (by decide), aup_a (by decide), aup_a (by decide), aup_a (by decide)]) <;> rfl) dX7_addEntry_150 (fun r150 => ?_)
              refine aw_iconst dX7_addEntry_153 ?_
              refine aw_iadd dX7_addEntry_154 ?_
              refine aw_putIk 42 flX7_277 SH_58 (by decide) rfl rfl rfl (by first | assumption | omega) dX7_addEntry_155 ?_
              refine aw_aload_n (i := 0) (q := 0) dX7_addEntry_158 rfl rfl ?_
              refine aw_getIk (x := (mi 58 42) + 1) 42 flX7_277 SH_58 (by decide) rfl rfl (by (rw [aup_eq]) <;> rfl) dX7_addEntry_159 (fun r159 => ?_)
              refine aw_iconst dX7_addEntry_162 ?_
              refine aw_isub dX7_addEntry_163 ?_
              exact aw_iret ⟨_, rfl, rfl, rfl, (by (repeat' split) <;> omega), (fun h => by omega), (fun _ => rfl)⟩ (Nat.le_refl _) (Nat.le_refl _) dX7_addEntry_164
            · refine aw_bipush (x := -4) dX7_addEntry_83 rfl ?_
              exact aw_iret ⟨_, rfl, rfl, rfl, (by (repeat' split) <;> omega), (fun _ => rfl), (fun h => by omega)⟩ (Nat.le_refl _) (Nat.le_refl _) dX7_addEntry_85
          · refine aw_bipush (x := -3) dX7_addEntry_71 rfl ?_
            exact aw_iret ⟨_, rfl, rfl, rfl, (by (repeat' split) <;> omega), (fun _ => rfl), (fun h => by omega)⟩ (Nat.le_refl _) (Nat.le_refl _) dX7_addEntry_73
      · refine aw_iload_n (i := 3) (q := 3) dX7_addEntry_31 rfl rfl ?_
        refine aw_i2l dX7_addEntry_32 (by first | assumption | omega) ?_
        refine aw_ldc2 (x := 200) coX7_258 rfl dX7_addEntry_33 ?_
        refine aw_ldc2 (x := 50000) coX7_280 rfl dX7_addEntry_36 ?_
        refine aw_cSp (As := [lL P, lL 200, lL 50000]) (st := []) clX7_135 (s_X7_isIn hR (by omega) (by omega) (by omega)) rfl rfl (Nat.le_of_ble_eq_true rfl) (by decide) (by decide) (Nat.le_refl _) (Nat.le_refl _) dX7_addEntry_39 (fun v39 hv39 => ?_)
        refine aw_if_eq (tgt := 71) dX7_addEntry_42 (by decide) (by first | assumption | omega) (fun c42 => ?_) (fun c42 => ?_)
        · refine aw_bipush (x := -3) dX7_addEntry_71 rfl ?_
          exact aw_iret ⟨_, rfl, rfl, rfl, (by (repeat' split) <;> omega), (fun _ => rfl), (fun h => by omega)⟩ (Nat.le_refl _) (Nat.le_refl _) dX7_addEntry_73
        · refine aw_iload (i := 4) (q := 4) dX7_addEntry_45 rfl ?_
          refine aw_i2l dX7_addEntry_47 (by first | assumption | omega) ?_
          refine aw_lconst (x := 1) dX7_addEntry_48 rfl ?_
          refine aw_ldc2 (x := 200) coX7_258 rfl dX7_addEntry_49 ?_
          refine aw_cSp (As := [lL s, lL 1, lL 200]) (st := []) clX7_135 (s_X7_isIn hR (by omega) (by omega) (by omega)) rfl rfl (Nat.le_of_ble_eq_true rfl) (by decide) (by decide) (Nat.le_refl _) (Nat.le_refl _) dX7_addEntry_52 (fun v52 hv52 => ?_)
          refine aw_if_eq (tgt := 71) dX7_addEntry_55 (by decide) (by first | assumption | omega) (fun c55 => ?_) (fun c55 => ?_)
          · refine aw_bipush (x := -3) dX7_addEntry_71 rfl ?_
            exact aw_iret ⟨_, rfl, rfl, rfl, (by (repeat' split) <;> omega), (fun _ => rfl), (fun h => by omega)⟩ (Nat.le_refl _) (Nat.le_refl _) dX7_addEntry_73
          · refine aw_iload (i := 5) (q := 5) dX7_addEntry_58 rfl ?_
            refine aw_i2l dX7_addEntry_60 (by first | assumption | omega) ?_
            refine aw_lconst (x := 0) dX7_addEntry_61 rfl ?_
            refine aw_ldc2 (x := 500) coX7_264 rfl dX7_addEntry_62 ?_
            refine aw_cSp (As := [lL W, lL 0, lL 500]) (st := []) clX7_135 (s_X7_isIn hR (by omega) (by omega) (by omega)) rfl rfl (Nat.le_of_ble_eq_true rfl) (by decide) (by decide) (Nat.le_refl _) (Nat.le_refl _) dX7_addEntry_65 (fun v65 hv65 => ?_)
            refine aw_if_ne (tgt := 74) dX7_addEntry_68 (by decide) (by first | assumption | omega) (fun c68 => ?_) (fun c68 => ?_)
            · refine aw_aload_n (i := 0) (q := 0) dX7_addEntry_74 rfl rfl ?_
              refine aw_getIk (x := mi 58 42) 42 flX7_277 SH_58 (by decide) rfl rfl rfl dX7_addEntry_75 (fun r75 => ?_)
              refine aw_bipush (x := 8) dX7_addEntry_78 rfl ?_
              refine aw_icmp_ne (tgt := 86) dX7_addEntry_80 (by decide) (by first | assumption | omega) (by decide) (fun c80 => ?_) (fun c80 => ?_)
              · refine aw_aload_n (i := 0) (q := 0) dX7_addEntry_86 rfl rfl ?_
                refine aw_getR (r := 80) flX7_81 SH_58 (by decide) rfl (rk_58_36 hR) dX7_addEntry_87 ?_
                refine aw_aload_n (i := 0) (q := 0) dX7_addEntry_90 rfl rfl ?_
                refine aw_getIk (x := mi 58 42) 42 flX7_277 SH_58 (by decide) rfl rfl rfl dX7_addEntry_91 (fun r91 => ?_)
                refine aw_iload_n (i := 1) (q := 1) dX7_addEntry_94 rfl rfl ?_
                refine aw_iast SH_80 (by decide) ⟨by omega, by omega⟩ (by first | assumption | omega) dX7_addEntry_95 ?_
                refine aw_aload_n (i := 0) (q := 0) dX7_addEntry_96 rfl rfl ?_
                refine aw_getR (r := 81) flX7_84 SH_58 (by decide) rfl (rk_58_37 hR) dX7_addEntry_97 ?_
                refine aw_aload_n (i := 0) (q := 0) dX7_addEntry_100 rfl rfl ?_
                refine aw_getIk (x := mi 58 42) 42 flX7_277 SH_58 (by decide) rfl rfl (by (rw [aup_a (by decide)]) <;> rfl) dX7_addEntry_101 (fun r101 => ?_)
                refine aw_iload_n (i := 2) (q := 2) dX7_addEntry_104 rfl rfl ?_
                refine aw_iast SH_81 (by decide) ⟨by omega, by omega⟩ (by first | assumption | omega) dX7_addEntry_105 ?_
                refine aw_aload_n (i := 0) (q := 0) dX7_addEntry_106 rfl rfl ?_
                refine aw_getR (r := 82) flX7_87 SH_58 (by decide) rfl (rk_58_38 hR) dX7_addEntry_107 ?_
                refine aw_aload_n (i := 0) (q := 0) dX7_addEntry_110 rfl rfl ?_
                refine aw_getIk (x := mi 58 42) 42 flX7_277 SH_58 (by decide) rfl rfl (by (rw [aup_a (by decide), aup_a (by decide)]) <;> rfl) dX7_addEntry_111 (fun r111 => ?_)
                refine aw_iload_n (i := 3) (q := 3) dX7_addEntry_114 rfl rfl ?_
                refine aw_iast SH_82 (by decide) ⟨by omega, by omega⟩ (by first | assumption | omega) dX7_addEntry_115 ?_
                refine aw_aload_n (i := 0) (q := 0) dX7_addEntry_116 rfl rfl ?_
                refine aw_getR (r := 83) flX7_90 SH_58 (by decide) rfl (rk_58_39 hR) dX7_addEntry_117 ?_
                refine aw_aload_n (i := 0) (q := 0) dX7_addEntry_120 rfl rfl ?_
                refine aw_getIk (x := mi 58 42) 42 flX7_277 SH_58 (by decide) rfl rfl (by (rw [aup_a (by decide), aup_a (by decide), aup_a (by decide)]) <;> rfl) dX7_addEntry_121 (fun r121 => ?_)
                refine aw_iload (i := 4) (q := 4) dX7_addEntry_124 rfl ?_
                refine aw_iast SH_83 (by decide) ⟨by omega, by omega⟩ (by first | assumption | omega) dX7_addEntry_126 ?_
                refine aw_aload_n (i := 0) (q := 0) dX7_addEntry_127 rfl rfl ?_
                refine aw_getR (r := 84) flX7_93 SH_58 (by decide) rfl (rk_58_40 hR) dX7_addEntry_128 ?_
                refine aw_aload_n (i := 0) (q := 0) dX7_addEntry_131 rfl rfl ?_
                refine aw_getIk (x := mi 58 42) 42 flX7_277 SH_58 (by decide) rfl rfl (by (rw [aup_a (by decide), aup_a (by decide), aup_a (by decide), aup_a (by decide)]) <;> rfl) dX7_addEntry_132 (fun r132 => ?_)
                refine aw_iload (i := 5) (q := 5) dX7_addEntry_135 rfl ?_
                refine aw_iast SH_84 (by decide) ⟨by omega, by omega⟩ (by first | assumption | omega) dX7_addEntry_137 ?_
                refine aw_aload_n (i := 0) (q := 0) dX7_addEntry_138 rfl rfl ?_
                refine aw_getR (r := 85) flX7_96 SH_58 (by decide) rfl (rk_58_41 hR) dX7_addEntry_139 ?_
                refine aw_aload_n (i := 0) (q := 0) dX7_addEntry_142 rfl rfl ?_
                refine aw_getIk (x := mi 58 42) 42 flX7_277 SH_58 (by decide) rfl rfl (by (rw [aup_a (by decide), aup_a (by decide), aup_a (by decide), aup_a (by decide), aup_a (by decide)]) <;> rfl) dX7_addEntry_143 (fun r143 => ?_)
                refine aw_iconst dX7_addEntry_146 ?_
                refine aw_iast SH_85 (by decide) ⟨by omega, by omega⟩ (by decide) dX7_addEntry_147 ?_
                refine aw_aload_n (i := 0) (q := 0) dX7_addEntry_148 rfl rfl ?_
                refine aw_dup dX7_addEntry_149 rfl ?_
                refine aw_getIk (x := mi 58 42) 42 flX7_277 SH_58 (by decide) rfl rfl (by (rw [aup_a (by decide), aup_a (by decide), aup_a (by decide), aup_a (by decide), aup_a (by decide), aup_a (by decide)]) <;> rfl) dX7_addEntry_150 (fun r150 => ?_)
                refine aw_iconst dX7_addEntry_153 ?_
                refine aw_iadd dX7_addEntry_154 ?_
                refine aw_putIk 42 flX7_277 SH_58 (by decide) rfl rfl rfl (by first | assumption | omega) dX7_addEntry_155 ?_
                refine aw_aload_n (i := 0) (q := 0) dX7_addEntry_158 rfl rfl ?_
                refine aw_getIk (x := (mi 58 42) + 1) 42 flX7_277 SH_58 (by decide) rfl rfl (by (rw [aup_eq]) <;> rfl) dX7_addEntry_159 (fun r159 => ?_)
                refine aw_iconst dX7_addEntry_162 ?_
                refine aw_isub dX7_addEntry_163 ?_
                exact aw_iret ⟨_, rfl, rfl, rfl, (by (repeat' split) <;> omega), (fun h => by omega), (fun _ => rfl)⟩ (Nat.le_refl _) (Nat.le_refl _) dX7_addEntry_164
              · refine aw_bipush (x := -4) dX7_addEntry_83 rfl ?_
                exact aw_iret ⟨_, rfl, rfl, rfl, (by (repeat' split) <;> omega), (fun _ => rfl), (fun h => by omega)⟩ (Nat.le_refl _) (Nat.le_refl _) dX7_addEntry_85
            · refine aw_bipush (x := -3) dX7_addEntry_71 rfl ?_
              exact aw_iret ⟨_, rfl, rfl, rfl, (by (repeat' split) <;> omega), (fun _ => rfl), (fun h => by omega)⟩ (Nat.le_refl _) (Nat.le_refl _) dX7_addEntry_73
  · refine aw_bipush (x := -2) dX7_addEntry_12 rfl ?_
    exact aw_iret ⟨_, rfl, rfl, rfl, (by (repeat' split) <;> omega), (fun _ => rfl), (fun h => by omega)⟩ (Nat.le_refl _) (Nat.le_refl _) dX7_addEntry_14
theorem s_X7_addEntry {mr : aR} (hR : Rok mr) {mi : aM} {w T P s W : Int} (h_w : -2147483648 ≤ w ∧ w ≤ 2147483647) (h_T : -2147483648 ≤ T ∧ T ≤ 2147483647) (h_P : -2147483648 ≤ P ∧ P ≤ 2147483647) (h_s : -2147483648 ≤ s ∧ s ≤ 2147483647) (h_W : -2147483648 ≤ W ∧ W ≤ 2147483647) (h8 : 0 ≤ (aup mi 58 0 0) 58 42 ∧ (aup mi 58 0 0) 58 42 ≤ 8) : SPg yX7_addEntry cX7_addEntry 6 (some .int) 3 [.ref 58, iI w, iI T, iI P, iI s, iI W] mi mr (Pi mr (fun r m => r = (if 0 ≤ w ∧ w < 5 then (if ((0 ≤ T ∧ T ≤ 100000) ∧ (P = 0 ∨ (200 ≤ P ∧ P ≤ 50000)) ∧ (1 ≤ s ∧ s ≤ 200) ∧ (0 ≤ W ∧ W ≤ 500)) then (if (aup mi 58 0 0) 58 42 < 8 then (aup mi 58 0 0) 58 42 else -4) else -3) else -2) ∧ (r < 0 → m = (aup mi 58 0 0)) ∧ (0 ≤ r → m = aup (aup (aup (aup (aup (aup (aup (aup mi 58 0 0) 80 ((aup mi 58 0 0) 58 42) w) 81 ((aup mi 58 0 0) 58 42) T) 82 ((aup mi 58 0 0) 58 42) P) 83 ((aup mi 58 0 0) 58 42) s) 84 ((aup mi 58 0 0) 58 42) W) 85 ((aup mi 58 0 0) 58 42) (-1)) 58 42 ((aup mi 58 0 0) 58 42 + 1)))) := by
  refine SPg.int rfl (by decide +kernel) (Nat.le_of_ble_eq_true rfl) ?_
  show AWm RX7 cX7_addEntry 6 3 _ 0 [(0, .ref 58), (1, iI w), (2, iI T), (3, iI P), (4, iI s), (5, iI W)] [] mi mr
  refine aw_aload_n (i := 0) (q := 0) dX7_addEntry_0 rfl rfl ?_
  refine aw_iconst dX7_addEntry_1 ?_
  refine aw_putIk 0 flX7_1 SH_58 (by decide) rfl rfl rfl (by decide) dX7_addEntry_2 ?_
  exact t_addEntry (mi := aup mi 58 0 0) hR h_w h_T h_P h_s h_W h8
