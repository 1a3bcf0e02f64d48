-- part 22: the plain public methods of the class (printed by wip/whole/gen/p22.py)
theorem s_X6_delay {mr : aR} (hR : Rok mr) {mi : aM} {b : Int} (h_b : -2147483648 ≤ b ∧ b ≤ 2147483647) (hn : 0 ≤ mi 1 11 ∧ mi 1 11 ≤ 12) : SPg yX6_delay cX6_delay 2 (some .int) 2 [.ref 1, iI b] mi mr (Pp mi mr (fun r => r = if 0 ≤ b ∧ b < mi 1 11 then mi (28 + b.toNat) 0 else -2)) := by
  refine SPg.pure rfl (by decide +kernel) (Nat.le_of_ble_eq_true rfl) ?_
  show AWm RX6 cX6_delay 2 2 _ 0 [(0, .ref 1), (1, iI b)] [] mi mr
  refine aw_aload_n (i := 0) (q := 0) dX6_delay_0 rfl rfl ?_
  refine aw_iload_n (i := 1) (q := 1) dX6_delay_1 rfl rfl ?_
  refine aw_cVp (As := [iI b]) (st := []) clX6_103 (s_X6_isBell hR (by omega)) SH_1 rfl (by decide) rfl rfl (Nat.le_of_ble_eq_true rfl) (by decide) (by decide) (Nat.le_refl _) (Nat.le_refl _) dX6_delay_2 (fun v2 hv2 => ?_)
  refine aw_if_eq (tgt := 20) dX6_delay_5 (by decide) (by first | assumption | omega) (fun c5 => ?_) (fun c5 => ?_)
  · refine aw_bipush (x := -2) dX6_delay_20 rfl ?_
    exact aw_iret ⟨_, rfl, rfl, rfl, rfl, (by (repeat' split) <;> omega)⟩ (Nat.le_refl _) (Nat.le_refl _) dX6_delay_22
  · refine aw_aload_n (i := 0) (q := 0) dX6_delay_8 rfl rfl ?_
    refine aw_getR (r := 2) flX6_11 SH_1 (by decide) rfl (rk_1_0 hR) dX6_delay_9 ?_
    refine aw_iload_n (i := 1) (q := 1) dX6_delay_12 rfl rfl ?_
    refine aw_aald (r := 28 + (b).toNat) SH_2 (by decide) (by decide) ⟨by omega, by omega⟩ (hR.2.1 _ (by omega) (by omega)) dX6_delay_13 ?_
    refine aw_getIk (x := mi (28 + (b).toNat) 0) 0 flX6_91 (SH_bell ⟨by omega, by omega⟩) ⟨by omega, by omega⟩ rfl rfl rfl dX6_delay_14 (fun r14 => ?_)
    refine aw_goto (tgt := 22) dX6_delay_17 (by decide) ?_
    exact aw_iret ⟨_, rfl, rfl, rfl, rfl, (by (repeat' split) <;> omega)⟩ (Nat.le_refl _) (Nat.le_refl _) dX6_delay_22
theorem s_X6_amplitude {mr : aR} (hR : Rok mr) {mi : aM} {b : Int} (h_b : -2147483648 ≤ b ∧ b ≤ 2147483647) (hn : 0 ≤ mi 1 11 ∧ mi 1 11 ≤ 12) : SPg yX6_amplitude cX6_amplitude 2 (some .int) 2 [.ref 1, iI b] mi mr (Pp mi mr (fun r => r = if 0 ≤ b ∧ b < mi 1 11 then (if mi (28 + b.toNat) 6 = 0 then -1 else mi (28 + b.toNat) 8) else -2)) := by
  refine SPg.pure rfl (by decide +kernel) (Nat.le_of_ble_eq_true rfl) ?_
  show AWm RX6 cX6_amplitude 2 2 _ 0 [(0, .ref 1), (1, iI b)] [] mi mr
  refine aw_aload_n (i := 0) (q := 0) dX6_amplitude_0 rfl rfl ?_
  refine aw_iload_n (i := 1) (q := 1) dX6_amplitude_1 rfl rfl ?_
  refine aw_cVp (As := [iI b]) (st := []) clX6_103 (s_X6_isBell hR (by omega)) SH_1 rfl (by decide) rfl rfl (Nat.le_of_ble_eq_true rfl) (by decide) (by decide) (Nat.le_refl _) (Nat.le_refl _) dX6_amplitude_2 (fun v2 hv2 => ?_)
  refine aw_if_ne (tgt := 11) dX6_amplitude_5 (by decide) (by first | assumption | omega) (fun c5 => ?_) (fun c5 => ?_)
  · refine aw_aload_n (i := 0) (q := 0) dX6_amplitude_11 rfl rfl ?_
    refine aw_getR (r := 2) flX6_11 SH_1 (by decide) rfl (rk_1_0 hR) dX6_amplitude_12 ?_
    refine aw_iload_n (i := 1) (q := 1) dX6_amplitude_15 rfl rfl ?_
    refine aw_aald (r := 28 + (b).toNat) SH_2 (by decide) (by decide) ⟨by omega, by omega⟩ (hR.2.1 _ (by omega) (by omega)) dX6_amplitude_16 ?_
    refine aw_getIk (x := mi (28 + (b).toNat) 6) 6 flX6_162 (SH_bell ⟨by omega, by omega⟩) ⟨by omega, by omega⟩ rfl rfl rfl dX6_amplitude_17 (fun r17 => ?_)
    refine aw_if_eq (tgt := 35) dX6_amplitude_20 (by decide) (by first | assumption | omega) (fun c20 => ?_) (fun c20 => ?_)
    · refine aw_iconst dX6_amplitude_35 ?_
      exact aw_iret ⟨_, rfl, rfl, rfl, rfl, (by (repeat' split) <;> omega)⟩ (Nat.le_refl _) (Nat.le_refl _) dX6_amplitude_36
    · refine aw_aload_n (i := 0) (q := 0) dX6_amplitude_23 rfl rfl ?_
      refine aw_getR (r := 2) flX6_11 SH_1 (by decide) rfl (rk_1_0 hR) dX6_amplitude_24 ?_
      refine aw_iload_n (i := 1) (q := 1) dX6_amplitude_27 rfl rfl ?_
      refine aw_aald (r := 28 + (b).toNat) SH_2 (by decide) (by decide) ⟨by omega, by omega⟩ (hR.2.1 _ (by omega) (by omega)) dX6_amplitude_28 ?_
      refine aw_getIk (x := mi (28 + (b).toNat) 8) 8 flX6_287 (SH_bell ⟨by omega, by omega⟩) ⟨by omega, by omega⟩ rfl rfl rfl dX6_amplitude_29 (fun r29 => ?_)
      refine aw_goto (tgt := 36) dX6_amplitude_32 (by decide) ?_
      exact aw_iret ⟨_, rfl, rfl, rfl, rfl, (by (repeat' split) <;> omega)⟩ (Nat.le_refl _) (Nat.le_refl _) dX6_amplitude_36
  · refine aw_bipush (x := -2) dX6_amplitude_8 rfl ?_
    exact aw_iret ⟨_, rfl, rfl, rfl, rfl, (by (repeat' split) <;> omega)⟩ (Nat.le_refl _) (Nat.le_refl _) dX6_amplitude_10
theorem s_X6_nextTurn {mr : aR} (hR : Rok mr) {mi : aM} {b : Int} (h_b : -2147483648 ≤ b ∧ b ≤ 2147483647) (hn : 0 ≤ mi 1 11 ∧ mi 1 11 ≤ 12) : SPg yX6_nextTurn cX6_nextTurn 2 (some .int) 2 [.ref 1, iI b] mi mr (Pp mi mr (fun r => r = if 0 ≤ b ∧ b < mi 1 11 then (if mi (28 + b.toNat) 6 = 0 then -1 else mi (28 + b.toNat) 11 + mi (28 + b.toNat) 3) else -2)) := by
  refine SPg.pure rfl (by decide +kernel) (Nat.le_of_ble_eq_true rfl) ?_
  show AWm RX6 cX6_nextTurn 2 2 _ 0 [(0, .ref 1), (1, iI b)] [] mi mr
  refine aw_aload_n (i := 0) (q := 0) dX6_nextTurn_0 rfl rfl ?_
  refine aw_iload_n (i := 1) (q := 1) dX6_nextTurn_1 rfl rfl ?_
  refine aw_cVp (As := [iI b]) (st := []) clX6_103 (s_X6_isBell hR (by omega)) SH_1 rfl (by decide) rfl rfl (Nat.le_of_ble_eq_true rfl) (by decide) (by decide) (Nat.le_refl _) (Nat.le_refl _) dX6_nextTurn_2 (fun v2 hv2 => ?_)
  refine aw_if_ne (tgt := 11) dX6_nextTurn_5 (by decide) (by first | assumption | omega) (fun c5 => ?_) (fun c5 => ?_)
  · refine aw_aload_n (i := 0) (q := 0) dX6_nextTurn_11 rfl rfl ?_
    refine aw_getR (r := 2) flX6_11 SH_1 (by decide) rfl (rk_1_0 hR) dX6_nextTurn_12 ?_
    refine aw_iload_n (i := 1) (q := 1) dX6_nextTurn_15 rfl rfl ?_
    refine aw_aald (r := 28 + (b).toNat) SH_2 (by decide) (by decide) ⟨by omega, by omega⟩ (hR.2.1 _ (by omega) (by omega)) dX6_nextTurn_16 ?_
    refine aw_getIk (x := mi (28 + (b).toNat) 6) 6 flX6_162 (SH_bell ⟨by omega, by omega⟩) ⟨by omega, by omega⟩ rfl rfl rfl dX6_nextTurn_17 (fun r17 => ?_)
    refine aw_if_eq (tgt := 35) dX6_nextTurn_20 (by decide) (by first | assumption | omega) (fun c20 => ?_) (fun c20 => ?_)
    · refine aw_iconst dX6_nextTurn_35 ?_
      exact aw_iret ⟨_, rfl, rfl, rfl, rfl, (by (repeat' split) <;> omega)⟩ (Nat.le_refl _) (Nat.le_refl _) dX6_nextTurn_36
    · refine aw_aload_n (i := 0) (q := 0) dX6_nextTurn_23 rfl rfl ?_
      refine aw_getR (r := 2) flX6_11 SH_1 (by decide) rfl (rk_1_0 hR) dX6_nextTurn_24 ?_
      refine aw_iload_n (i := 1) (q := 1) dX6_nextTurn_27 rfl rfl ?_
      refine aw_aald (r := 28 + (b).toNat) SH_2 (by decide) (by decide) ⟨by omega, by omega⟩ (hR.2.1 _ (by omega) (by omega)) dX6_nextTurn_28 ?_
      refine aw_cVp (As := []) (st := []) clX6_281 (s_X0_turnTime hR (SH_bell ⟨by omega, by omega⟩) ⟨by omega, by omega⟩) (SH_bell ⟨by omega, by omega⟩) rfl ⟨by omega, by omega⟩ rfl rfl (Nat.le_of_ble_eq_true rfl) (by decide) (by decide) (Nat.le_refl _) (Nat.le_refl _) dX6_nextTurn_29 (fun v29 hv29 => ?_)
      refine aw_goto (tgt := 36) dX6_nextTurn_32 (by decide) ?_
      exact aw_iret ⟨_, rfl, rfl, rfl, rfl, (by (repeat' split) <;> omega)⟩ (Nat.le_refl _) (Nat.le_refl _) dX6_nextTurn_36
  · refine aw_bipush (x := -2) dX6_nextTurn_8 rfl ?_
    exact aw_iret ⟨_, rfl, rfl, rfl, rfl, (by (repeat' split) <;> omega)⟩ (Nat.le_refl _) (Nat.le_refl _) dX6_nextTurn_10
theorem s_X6_force {mr : aR} (hR : Rok mr) {mi : aM} {b : Int} (h_b : -2147483648 ≤ b ∧ b ≤ 2147483647) (hc : cB mi) : SPg yX6_force cX6_force 2 (some .int) 2 [.ref 1, iI b] mi mr (Pp mi mr (fun r => r = if 0 ≤ b ∧ b < mi 1 11 then fF (mi (28 + b.toNat) 2) (mi (28 + b.toNat) 3) (bqOf mi (28 + b.toNat)) (mi 1 13) + 100000 else -2)) := by
  refine SPg.pure rfl (by decide +kernel) (Nat.le_of_ble_eq_true rfl) ?_
  show AWm RX6 cX6_force 2 2 _ 0 [(0, .ref 1), (1, iI b)] [] mi mr
  have hn := hc.1
  refine aw_aload_n (i := 0) (q := 0) dX6_force_0 rfl rfl ?_
  refine aw_iload_n (i := 1) (q := 1) dX6_force_1 rfl rfl ?_
  refine aw_cVp (As := [iI b]) (st := []) clX6_103 (s_X6_isBell hR (by omega)) SH_1 rfl (by decide) rfl rfl (Nat.le_of_ble_eq_true rfl) (by decide) (by decide) (Nat.le_refl _) (Nat.le_refl _) dX6_force_2 (fun v2 hv2 => ?_)
  refine aw_if_eq (tgt := 27) dX6_force_5 (by decide) (by first | assumption | omega) (fun c5 => ?_) (fun c5 => ?_)
  · refine aw_bipush (x := -2) dX6_force_27 rfl ?_
    exact aw_iret ⟨_, rfl, rfl, rfl, rfl, (by rw [if_neg (by omega)])⟩ (Nat.le_refl _) (Nat.le_refl _) dX6_force_29
  · obtain ⟨hk, hl9, hw9⟩ := hc.2.2 b.toNat (by omega)
    have hn2 := hc.2.1
    refine aw_aload_n (i := 0) (q := 0) dX6_force_8 rfl rfl ?_
    refine aw_getR (r := 2) flX6_11 SH_1 (by decide) rfl (rk_1_0 hR) dX6_force_9 ?_
    refine aw_iload_n (i := 1) (q := 1) dX6_force_12 rfl rfl ?_
    refine aw_aald (r := 28 + (b).toNat) SH_2 (by decide) (by decide) ⟨by omega, by omega⟩ (hR.2.1 _ (by omega) (by omega)) dX6_force_13 ?_
    refine aw_aload_n (i := 0) (q := 0) dX6_force_14 rfl rfl ?_
    refine aw_getIk (x := mi 1 13) 13 flX6_73 SH_1 (by decide) rfl rfl rfl dX6_force_15 (fun r15 => ?_)
    refine aw_cVp (As := [iI (mi 1 13)]) (st := []) clX6_296 (s_X0_forceAt hR (SH_bell ⟨by omega, by omega⟩) ⟨by omega, by omega⟩ (by omega) hk.2.2.1 hk.2.2.2.1 hk.2.2.2.2.2.2.2.2.1 hk.2.2.2.2.2.2.2.2.2.1 (fun q => by have := hw9 q; omega)) (SH_bell ⟨by omega, by omega⟩) rfl ⟨by omega, by omega⟩ rfl rfl (Nat.le_of_ble_eq_true rfl) (by decide) (by decide) (Nat.le_refl _) (Nat.le_refl _) dX6_force_18 (fun v18 hv18 => ?_)
    refine aw_ldc (x := 100000) coX6_107 rfl dX6_force_21 ?_
    refine aw_iadd dX6_force_23 ?_
    refine aw_goto (tgt := 29) dX6_force_24 (by decide) ?_
    exact aw_iret ⟨_, rfl, rfl, rfl, rfl, (by rw [if_pos ⟨by omega, by omega⟩, ← fF_of hv18])⟩ (Nat.le_refl _) (Nat.le_refl _) dX6_force_29
theorem s_X6_addBell {mr : aR} (hR : Rok mr) {mi : aM} {d e w h : Int} (h_d : -2147483648 ≤ d ∧ d ≤ 2147483647) (h_e : -2147483648 ≤ e ∧ e ≤ 2147483647) (h_w : -2147483648 ≤ w ∧ w ≤ 2147483647) (h_h : -2147483648 ≤ h ∧ h ≤ 2147483647) (hn : 0 ≤ mi 1 11 ∧ mi 1 11 ≤ 12) : SPg yX6_addBell cX6_addBell 6 (some .int) 2 [.ref 1, iI d, iI e, iI w, iI h] mi mr (Pi mr (fun r m => r = (if (1 ≤ d ∧ d ≤ 50) ∧ (0 ≤ e ∧ e ≤ 100) ∧ (1 ≤ w ∧ w ≤ 99) ∧ (10 ≤ h ∧ h ≤ 60) then (if 12 ≤ mi 1 11 then -4 else mi 1 11) else -3) ∧ (r < 0 → m = mi) ∧ (0 ≤ r → m = aup (aup (aup (aup (aup mi (28 + (mi 1 11).toNat) 0 d) (28 + (mi 1 11).toNat) 1 e) (28 + (mi 1 11).toNat) 2 w) (28 + (mi 1 11).toNat) 3 h) 1 11 (mi 1 11 + 1)))) := by
  refine SPg.int rfl (by decide +kernel) (Nat.le_of_ble_eq_true rfl) ?_
  show AWm RX6 cX6_addBell 6 2 _ 0 [(0, .ref 1), (1, iI d), (2, iI e), (3, iI w), (4, iI h)] [] mi mr
  refine aw_iload_n (i := 1) (q := 1) dX6_addBell_0 rfl rfl ?_
  refine aw_iconst dX6_addBell_1 ?_
  refine aw_bipush (x := 50) dX6_addBell_2 rfl ?_
  refine aw_cSp (As := [iI d, iI 1, iI 50]) (st := []) clX6_87 (s_X6_outside hR (by omega) (by omega) (by omega)) rfl rfl (Nat.le_of_ble_eq_true rfl) (by decide) (by decide) (Nat.le_refl _) (Nat.le_refl _) dX6_addBell_4 (fun v4 hv4 => ?_)
  refine aw_if_ne (tgt := 42) dX6_addBell_7 (by decide) (by first | assumption | omega) (fun c7 => ?_) (fun c7 => ?_)
  · refine aw_bipush (x := -3) dX6_addBell_42 rfl ?_
    exact aw_iret ⟨_, rfl, rfl, rfl, (by (repeat' split) <;> omega), (fun _ => rfl), (fun h => by omega)⟩ (Nat.le_refl _) (Nat.le_refl _) dX6_addBell_44
  · refine aw_iload_n (i := 2) (q := 2) dX6_addBell_10 rfl rfl ?_
    refine aw_iconst dX6_addBell_11 ?_
    refine aw_bipush (x := 100) dX6_addBell_12 rfl ?_
    refine aw_cSp (As := [iI e, iI 0, iI 100]) (st := []) clX6_87 (s_X6_outside hR (by omega) (by omega) (by omega)) rfl rfl (Nat.le_of_ble_eq_true rfl) (by decide) (by decide) (Nat.le_refl _) (Nat.le_refl _) dX6_addBell_14 (fun v14 hv14 => ?_)
    refine aw_if_ne (tgt := 42) dX6_addBell_17 (by decide) (by first | assumption | omega) (fun c17 => ?_) (fun c17 => ?_)
    · refine aw_bipush (x := -3) dX6_addBell_42 rfl ?_
      exact aw_iret ⟨_, rfl, rfl, rfl, (by (repeat' split) <;> omega), (fun _ => rfl), (fun h => by omega)⟩ (Nat.le_refl _) (Nat.le_refl _) dX6_addBell_44
    · refine aw_iload_n (i := 3) (q := 3) dX6_addBell_20 rfl rfl ?_
      refine aw_iconst dX6_addBell_21 ?_
      refine aw_bipush (x := 99) dX6_addBell_22 rfl ?_
      refine aw_cSp (As := [iI w, iI 1, iI 99]) (st := []) clX6_87 (s_X6_outside hR (by omega) (by omega) (by omega)) rfl rfl (Nat.le_of_ble_eq_true rfl) (by decide) (by decide) (Nat.le_refl _) (Nat.le_refl _) dX6_addBell_24 (fun v24 hv24 => ?_)
      refine aw_if_ne (tgt := 42) dX6_addBell_27 (by decide) (by first | assumption | omega) (fun c27 => ?_) (fun c27 => ?_)
      · refine aw_bipush (x := -3) dX6_addBell_42 rfl ?_
        exact aw_iret ⟨_, rfl, rfl, rfl, (by (repeat' split) <;> omega), (fun _ => rfl), (fun h => by omega)⟩ (Nat.le_refl _) (Nat.le_refl _) dX6_addBell_44
      · refine aw_iload (i := 4) (q := 4) dX6_addBell_30 rfl ?_
        refine aw_bipush (x := 10) dX6_addBell_32 rfl ?_
        refine aw_bipush (x := 60) dX6_addBell_34 rfl ?_
        refine aw_cSp (As := [iI h, iI 10, iI 60]) (st := []) clX6_87 (s_X6_outside hR (by omega) (by omega) (by omega)) rfl rfl (Nat.le_of_ble_eq_true rfl) (by decide) (by decide) (Nat.le_refl _) (Nat.le_refl _) dX6_addBell_36 (fun v36 hv36 => ?_)
        refine aw_if_eq (tgt := 45) dX6_addBell_39 (by decide) (by first | assumption | omega) (fun c39 => ?_) (fun c39 => ?_)
        · refine aw_aload_n (i := 0) (q := 0) dX6_addBell_45 rfl rfl ?_
          refine aw_getIk (x := mi 1 11) 11 flX6_66 SH_1 (by decide) rfl rfl rfl dX6_addBell_46 (fun r46 => ?_)
          refine aw_bipush (x := 12) dX6_addBell_49 rfl ?_
          refine aw_icmp_lt (tgt := 57) dX6_addBell_51 (by decide) (by first | assumption | omega) (by decide) (fun c51 => ?_) (fun c51 => ?_)
          · refine aw_aload_n (i := 0) (q := 0) dX6_addBell_57 rfl rfl ?_
            refine aw_getR (r := 2) flX6_11 SH_1 (by decide) rfl (rk_1_0 hR) dX6_addBell_58 ?_
            refine aw_aload_n (i := 0) (q := 0) dX6_addBell_61 rfl rfl ?_
            refine aw_getIk (x := mi 1 11) 11 flX6_66 SH_1 (by decide) rfl rfl rfl dX6_addBell_62 (fun r62 => ?_)
            refine aw_aald (r := 28 + (mi 1 11).toNat) SH_2 (by decide) (by decide) ⟨by omega, by omega⟩ (hR.2.1 _ (by omega) (by omega)) dX6_addBell_65 ?_
            refine aw_astore (i := 5) (lv' := [(0, .ref 1), (1, iI d), (2, iI e), (3, iI w), (4, iI h), (5, .ref (28 + (mi 1 11).toNat))]) [1, 2, 3, 4, 5, 0] dX6_addBell_66 (by decide) rfl ?_
            refine aw_aload (i := 5) (q := 5) dX6_addBell_68 rfl ?_
            refine aw_iload_n (i := 1) (q := 1) dX6_addBell_70 rfl rfl ?_
            refine aw_putIk 0 flX6_91 (SH_bell ⟨by omega, by omega⟩) ⟨by omega, by omega⟩ rfl rfl rfl (by first | assumption | omega) dX6_addBell_71 ?_
            refine aw_aload (i := 5) (q := 5) dX6_addBell_74 rfl ?_
            refine aw_iload_n (i := 2) (q := 2) dX6_addBell_76 rfl rfl ?_
            refine aw_putIk 1 flX6_94 (SH_bell ⟨by omega, by omega⟩) ⟨by omega, by omega⟩ rfl rfl rfl (by first | assumption | omega) dX6_addBell_77 ?_
            refine aw_aload (i := 5) (q := 5) dX6_addBell_80 rfl ?_
            refine aw_iload_n (i := 3) (q := 3) dX6_addBell_82 rfl rfl ?_
            refine aw_putIk 2 flX6_97 (SH_bell ⟨by omega, by omega⟩) ⟨by omega, by omega⟩ rfl rfl rfl (by first | assumption | omega) dX6_addBell_83 ?_
            refine aw_aload (i := 5) (q := 5) dX6_addBell_86 rfl ?_
            refine aw_iload (i := 4) (q := 4) dX6_addBell_88 rfl ?_
            refine aw_putIk 3 flX6_100 (SH_bell ⟨by omega, by omega⟩) ⟨by omega, by omega⟩ rfl rfl rfl (by first | assumption | omega) dX6_addBell_90 ?_
            refine aw_aload_n (i := 0) (q := 0) dX6_addBell_93 rfl rfl ?_
            refine aw_dup dX6_addBell_94 rfl ?_
            refine aw_getIk (x := mi 1 11) 11 flX6_66 SH_1 (by decide) rfl rfl (by (rw [aup_k (by decide), aup_k (by decide), aup_k (by decide), aup_k (by decide)]) <;> rfl) dX6_addBell_95 (fun r95 => ?_)
            refine aw_iconst dX6_addBell_98 ?_
            refine aw_iadd dX6_addBell_99 ?_
            refine aw_putIk 11 flX6_66 SH_1 (by decide) rfl rfl rfl (by first | assumption | omega) dX6_addBell_100 ?_
            refine aw_aload_n (i := 0) (q := 0) dX6_addBell_103 rfl rfl ?_
            refine aw_getIk (x := (mi 1 11) + 1) 11 flX6_66 SH_1 (by decide) rfl rfl (by (rw [aup_eq]) <;> rfl) dX6_addBell_104 (fun r104 => ?_)
            refine aw_iconst dX6_addBell_107 ?_
            refine aw_isub dX6_addBell_108 ?_
            exact aw_iret ⟨_, rfl, rfl, rfl, (by (repeat' split) <;> omega), (fun h => by omega), (fun _ => rfl)⟩ (Nat.le_refl _) (Nat.le_refl _) dX6_addBell_109
          · refine aw_bipush (x := -4) dX6_addBell_54 rfl ?_
            exact aw_iret ⟨_, rfl, rfl, rfl, (by (repeat' split) <;> omega), (fun _ => rfl), (fun h => by omega)⟩ (Nat.le_refl _) (Nat.le_refl _) dX6_addBell_56
        · refine aw_bipush (x := -3) dX6_addBell_42 rfl ?_
          exact aw_iret ⟨_, rfl, rfl, rfl, (by (repeat' split) <;> omega), (fun _ => rfl), (fun h => by omega)⟩ (Nat.le_refl _) (Nat.le_refl _) dX6_addBell_44
theorem s_X6_calibrate {mr : aR} (hR : Rok mr) {mi : aM} {b x : Int} (h_b : -2147483648 ≤ b ∧ b ≤ 2147483647) (h_x : -2147483648 ≤ x ∧ x ≤ 2147483647) (hc : cB mi) : SPg yX6_calibrate cX6_calibrate 4 (some .int) 2 [.ref 1, iI b, iI x] mi mr (Pi mr (fun r m => r = (if 0 ≤ b ∧ b < mi 1 11 then (if 1 ≤ x ∧ x ≤ 50 then ((3 * mi (28 + b.toNat) 0 + x + 2).tdiv 4) else -3) else -2) ∧ (r < 0 → m = mi) ∧ (0 ≤ r → m = aup mi (28 + b.toNat) 0 ((3 * mi (28 + b.toNat) 0 + x + 2).tdiv 4)))) := by
  refine SPg.int rfl (by decide +kernel) (Nat.le_of_ble_eq_true rfl) ?_
  show AWm RX6 cX6_calibrate 4 2 _ 0 [(0, .ref 1), (1, iI b), (2, iI x)] [] mi mr
  have hn := hc.1
  refine aw_aload_n (i := 0) (q := 0) dX6_calibrate_0 rfl rfl ?_
  refine aw_iload_n (i := 1) (q := 1) dX6_calibrate_1 rfl rfl ?_
  refine aw_cVp (As := [iI b]) (st := []) clX6_103 (s_X6_isBell hR (by omega)) SH_1 rfl (by decide) rfl rfl (Nat.le_of_ble_eq_true rfl) (by decide) (by decide) (Nat.le_refl _) (Nat.le_refl _) dX6_calibrate_2 (fun v2 hv2 => ?_)
  refine aw_if_ne (tgt := 11) dX6_calibrate_5 (by decide) (by first | assumption | omega) (fun c5 => ?_) (fun c5 => ?_)
  · refine aw_iload_n (i := 2) (q := 2) dX6_calibrate_11 rfl rfl ?_
    refine aw_iconst dX6_calibrate_12 ?_
    refine aw_bipush (x := 50) dX6_calibrate_13 rfl ?_
    refine aw_cSp (As := [iI x, iI 1, iI 50]) (st := []) clX6_87 (s_X6_outside hR (by omega) (by omega) (by omega)) rfl rfl (Nat.le_of_ble_eq_true rfl) (by decide) (by decide) (Nat.le_refl _) (Nat.le_refl _) dX6_calibrate_15 (fun v15 hv15 => ?_)
    refine aw_if_eq (tgt := 24) dX6_calibrate_18 (by decide) (by first | assumption | omega) (fun c18 => ?_) (fun c18 => ?_)
    · obtain ⟨hk, -, -⟩ := hc.2.2 b.toNat (by omega)
      have hk0 := hk.1
      have hq9 : (3 * mi (28 + b.toNat) 0 + x + 2).tdiv 4 = (3 * mi (28 + b.toNat) 0 + x + 2) / 4 := Int.tdiv_eq_ediv_of_nonneg (by omega)
      refine aw_aload_n (i := 0) (q := 0) dX6_calibrate_24 rfl rfl ?_
      refine aw_getR (r := 2) flX6_11 SH_1 (by decide) rfl (rk_1_0 hR) dX6_calibrate_25 ?_
      refine aw_iload_n (i := 1) (q := 1) dX6_calibrate_28 rfl rfl ?_
      refine aw_aald (r := 28 + (b).toNat) SH_2 (by decide) (by decide) ⟨by omega, by omega⟩ (hR.2.1 _ (by omega) (by omega)) dX6_calibrate_29 ?_
      refine aw_astore_n (i := 3) (lv' := [(0, .ref 1), (1, iI b), (2, iI x), (3, .ref (28 + (b).toNat))]) [1, 2, 3, 0] dX6_calibrate_30 rfl (by decide) rfl ?_
      refine aw_aload_n (i := 3) (q := 3) dX6_calibrate_31 rfl rfl ?_
      refine aw_iconst dX6_calibrate_32 ?_
      refine aw_aload_n (i := 3) (q := 3) dX6_calibrate_33 rfl rfl ?_
      refine aw_getIk (x := mi (28 + (b).toNat) 0) 0 flX6_91 (SH_bell ⟨by omega, by omega⟩) ⟨by omega, by omega⟩ rfl rfl rfl dX6_calibrate_34 (fun r34 => ?_)
      refine aw_imul dX6_calibrate_37 ?_
      refine aw_iload_n (i := 2) (q := 2) dX6_calibrate_38 rfl rfl ?_
      refine aw_iadd dX6_calibrate_39 ?_
      refine aw_iconst dX6_calibrate_40 ?_
      refine aw_iadd dX6_calibrate_41 ?_
      refine aw_iconst dX6_calibrate_42 ?_
      refine aw_idiv dX6_calibrate_43 (by first | assumption | omega) (by decide) (by omega) (by omega) ?_
      refine aw_putIk 0 flX6_91 (SH_bell ⟨by omega, by omega⟩) ⟨by omega, by omega⟩ rfl rfl rfl (by first | assumption | omega) dX6_calibrate_44 ?_
      refine aw_aload_n (i := 3) (q := 3) dX6_calibrate_47 rfl rfl ?_
      refine aw_getIk (x := (((3 * (mi (28 + (b).toNat) 0)) + x) + 2).tdiv 4) 0 flX6_91 (SH_bell ⟨by omega, by omega⟩) ⟨by omega, by omega⟩ rfl rfl (by (rw [aup_eq]) <;> rfl) dX6_calibrate_48 (fun r48 => ?_)
      exact aw_iret ⟨_, rfl, rfl, rfl, (by (repeat' split) <;> omega), (fun h => by omega), (fun _ => rfl)⟩ (Nat.le_refl _) (Nat.le_refl _) dX6_calibrate_51
    · refine aw_bipush (x := -3) dX6_calibrate_21 rfl ?_
      exact aw_iret ⟨_, rfl, rfl, rfl, (by (repeat' split) <;> omega), (fun _ => rfl), (fun h => by omega)⟩ (Nat.le_refl _) (Nat.le_refl _) dX6_calibrate_23
  · refine aw_bipush (x := -2) dX6_calibrate_8 rfl ?_
    exact aw_iret ⟨_, rfl, rfl, rfl, (by (repeat' split) <;> omega), (fun _ => rfl), (fun h => by omega)⟩ (Nat.le_refl _) (Nat.le_refl _) dX6_calibrate_10
theorem s_X6_setPowerLimit {mr : aR} (hR : Rok mr) {mi : aM} {x : Int} (h_x : -2147483648 ≤ x ∧ x ≤ 2147483647) (hn : 1 ≤ mi 1 14 ∧ mi 1 14 ≤ 12) : SPg yX6_setPowerLimit cX6_setPowerLimit 3 (some .int) 2 [.ref 1, iI x] mi mr (Pi mr (fun r m => r = (if 1 ≤ x ∧ x ≤ 12 then mi 1 14 else -3) ∧ (r < 0 → m = mi) ∧ (0 ≤ r → m = aup mi 1 14 x))) := by
  refine SPg.int rfl (by decide +kernel) (Nat.le_of_ble_eq_true rfl) ?_
  show AWm RX6 cX6_setPowerLimit 3 2 _ 0 [(0, .ref 1), (1, iI x)] [] mi mr
  refine aw_iload_n (i := 1) (q := 1) dX6_setPowerLimit_0 rfl rfl ?_
  refine aw_iconst dX6_setPowerLimit_1 ?_
  refine aw_bipush (x := 12) dX6_setPowerLimit_2 rfl ?_
  refine aw_cSp (As := [iI x, iI 1, iI 12]) (st := []) clX6_87 (s_X6_outside hR (by omega) (by omega) (by omega)) rfl rfl (Nat.le_of_ble_eq_true rfl) (by decide) (by decide) (Nat.le_refl _) (Nat.le_refl _) dX6_setPowerLimit_4 (fun v4 hv4 => ?_)
  refine aw_if_eq (tgt := 13) dX6_setPowerLimit_7 (by decide) (by first | assumption | omega) (fun c7 => ?_) (fun c7 => ?_)
  · refine aw_aload_n (i := 0) (q := 0) dX6_setPowerLimit_13 rfl rfl ?_
    refine aw_getIk (x := mi 1 14) 14 flX6_76 SH_1 (by decide) rfl rfl rfl dX6_setPowerLimit_14 (fun r14 => ?_)
    refine aw_istore_n (i := 2) (lv' := [(0, .ref 1), (1, iI x), (2, iI (mi 1 14))]) [1, 2, 0] dX6_setPowerLimit_17 rfl (by decide) rfl ?_
    refine aw_aload_n (i := 0) (q := 0) dX6_setPowerLimit_18 rfl rfl ?_
    refine aw_iload_n (i := 1) (q := 1) dX6_setPowerLimit_19 rfl rfl ?_
    refine aw_putIk 14 flX6_76 SH_1 (by decide) rfl rfl rfl (by first | assumption | omega) dX6_setPowerLimit_20 ?_
    refine aw_iload_n (i := 2) (q := 2) dX6_setPowerLimit_23 rfl rfl ?_
    exact aw_iret ⟨_, rfl, rfl, rfl, (by (repeat' split) <;> omega), (fun h => by omega), (fun _ => rfl)⟩ (Nat.le_refl _) (Nat.le_refl _) dX6_setPowerLimit_24
  · refine aw_bipush (x := -3) dX6_setPowerLimit_10 rfl ?_
    exact aw_iret ⟨_, rfl, rfl, rfl, (by (repeat' split) <;> omega), (fun _ => rfl), (fun h => by omega)⟩ (Nat.le_refl _) (Nat.le_refl _) dX6_setPowerLimit_12
theorem s_X6_setShakeLimit {mr : aR} (hR : Rok mr) {mi : aM} {x : Int} (h_x : -2147483648 ≤ x ∧ x ≤ 2147483647) (hn : 0 ≤ mi 1 15 ∧ mi 1 15 ≤ 100000) : SPg yX6_setShakeLimit cX6_setShakeLimit 3 (some .int) 2 [.ref 1, iI x] mi mr (Pi mr (fun r m => r = (if 0 ≤ x ∧ x ≤ 100000 then mi 1 15 else -3) ∧ (r < 0 → m = mi) ∧ (0 ≤ r → m = aup mi 1 15 x))) := by
  refine SPg.int rfl (by decide +kernel) (Nat.le_of_ble_eq_true rfl) ?_
  show AWm RX6 cX6_setShakeLimit 3 2 _ 0 [(0, .ref 1), (1, iI x)] [] mi mr
  refine aw_iload_n (i := 1) (q := 1) dX6_setShakeLimit_0 rfl rfl ?_
  refine aw_iconst dX6_setShakeLimit_1 ?_
  refine aw_ldc (x := 100000) coX6_107 rfl dX6_setShakeLimit_2 ?_
  refine aw_cSp (As := [iI x, iI 0, iI 100000]) (st := []) clX6_87 (s_X6_outside hR (by omega) (by omega) (by omega)) rfl rfl (Nat.le_of_ble_eq_true rfl) (by decide) (by decide) (Nat.le_refl _) (Nat.le_refl _) dX6_setShakeLimit_4 (fun v4 hv4 => ?_)
  refine aw_if_eq (tgt := 13) dX6_setShakeLimit_7 (by decide) (by first | assumption | omega) (fun c7 => ?_) (fun c7 => ?_)
  · refine aw_aload_n (i := 0) (q := 0) dX6_setShakeLimit_13 rfl rfl ?_
    refine aw_getIk (x := mi 1 15) 15 flX6_79 SH_1 (by decide) rfl rfl rfl dX6_setShakeLimit_14 (fun r14 => ?_)
    refine aw_istore_n (i := 2) (lv' := [(0, .ref 1), (1, iI x), (2, iI (mi 1 15))]) [1, 2, 0] dX6_setShakeLimit_17 rfl (by decide) rfl ?_
    refine aw_aload_n (i := 0) (q := 0) dX6_setShakeLimit_18 rfl rfl ?_
    refine aw_iload_n (i := 1) (q := 1) dX6_setShakeLimit_19 rfl rfl ?_
    refine aw_putIk 15 flX6_79 SH_1 (by decide) rfl rfl rfl (by first | assumption | omega) dX6_setShakeLimit_20 ?_
    refine aw_iload_n (i := 2) (q := 2) dX6_setShakeLimit_23 rfl rfl ?_
    exact aw_iret ⟨_, rfl, rfl, rfl, (by (repeat' split) <;> omega), (fun h => by omega), (fun _ => rfl)⟩ (Nat.le_refl _) (Nat.le_refl _) dX6_setShakeLimit_24
  · refine aw_bipush (x := -3) dX6_setShakeLimit_10 rfl ?_
    exact aw_iret ⟨_, rfl, rfl, rfl, (by (repeat' split) <;> omega), (fun _ => rfl), (fun h => by omega)⟩ (Nat.le_refl _) (Nat.le_refl _) dX6_setShakeLimit_12
theorem s_X6_holdClapper {mr : aR} (hR : Rok mr) {mi : aM} {b x : Int} (h_b : -2147483648 ≤ b ∧ b ≤ 2147483647) (hx : x = 0 ∨ x = 1) (hc : cB mi) : SPg yX6_holdClapper cX6_holdClapper 4 (some .int) 2 [.ref 1, iI b, iI x] mi mr (Pi mr (fun r m => r = (if 0 ≤ b ∧ b < mi 1 11 then mi (28 + b.toNat) 5 else -2) ∧ (r < 0 → m = mi) ∧ (0 ≤ r → m = aup mi (28 + b.toNat) 5 x))) := by
  refine SPg.int rfl (by decide +kernel) (Nat.le_of_ble_eq_true rfl) ?_
  show AWm RX6 cX6_holdClapper 4 2 _ 0 [(0, .ref 1), (1, iI b), (2, iI x)] [] mi mr
  have hn := hc.1
  refine aw_aload_n (i := 0) (q := 0) dX6_holdClapper_0 rfl rfl ?_
  refine aw_iload_n (i := 1) (q := 1) dX6_holdClapper_1 rfl rfl ?_
  refine aw_cVp (As := [iI b]) (st := []) clX6_103 (s_X6_isBell hR (by omega)) SH_1 rfl (by decide) rfl rfl (Nat.le_of_ble_eq_true rfl) (by decide) (by decide) (Nat.le_refl _) (Nat.le_refl _) dX6_holdClapper_2 (fun v2 hv2 => ?_)
  refine aw_if_ne (tgt := 11) dX6_holdClapper_5 (by decide) (by first | assumption | omega) (fun c5 => ?_) (fun c5 => ?_)
  · obtain ⟨hk, -, -⟩ := hc.2.2 b.toNat (by omega)
    have hk5 := hk.2.2.2.2.2.1
    refine aw_aload_n (i := 0) (q := 0) dX6_holdClapper_11 rfl rfl ?_
    refine aw_getR (r := 2) flX6_11 SH_1 (by decide) rfl (rk_1_0 hR) dX6_holdClapper_12 ?_
    refine aw_iload_n (i := 1) (q := 1) dX6_holdClapper_15 rfl rfl ?_
    refine aw_aald (r := 28 + (b).toNat) SH_2 (by decide) (by decide) ⟨by omega, by omega⟩ (hR.2.1 _ (by omega) (by omega)) dX6_holdClapper_16 ?_
    refine aw_getIk (x := mi (28 + (b).toNat) 5) 5 flX6_290 (SH_bell ⟨by omega, by omega⟩) ⟨by omega, by omega⟩ rfl rfl rfl dX6_holdClapper_17 (fun r17 => ?_)
    refine aw_if_eq (tgt := 27) dX6_holdClapper_20 (by decide) (by first | assumption | omega) (fun c20 => ?_) (fun c20 => ?_)
    · refine aw_iconst dX6_holdClapper_27 ?_
      refine aw_istore_n (i := 3) (lv' := [(0, .ref 1), (1, iI b), (2, iI x), (3, iI 0)]) [1, 2, 3, 0] dX6_holdClapper_28 rfl (by decide) rfl ?_
      refine aw_aload_n (i := 0) (q := 0) dX6_holdClapper_29 rfl rfl ?_
      refine aw_getR (r := 2) flX6_11 SH_1 (by decide) rfl (rk_1_0 hR) dX6_holdClapper_30 ?_
      refine aw_iload_n (i := 1) (q := 1) dX6_holdClapper_33 rfl rfl ?_
      refine aw_aald (r := 28 + (b).toNat) SH_2 (by decide) (by decide) ⟨by omega, by omega⟩ (hR.2.1 _ (by omega) (by omega)) dX6_holdClapper_34 ?_
      refine aw_iload_n (i := 2) (q := 2) dX6_holdClapper_35 rfl rfl ?_
      refine aw_putZk 5 flX6_290 (SH_bell ⟨by omega, by omega⟩) ⟨by omega, by omega⟩ rfl rfl rfl (by omega) dX6_holdClapper_36 ?_
      refine aw_iload_n (i := 3) (q := 3) dX6_holdClapper_39 rfl rfl ?_
      exact aw_iret ⟨_, rfl, rfl, rfl, (by (repeat' split) <;> omega), (fun h => by omega), (fun _ => rfl)⟩ (Nat.le_refl _) (Nat.le_refl _) dX6_holdClapper_40
    · refine aw_iconst dX6_holdClapper_23 ?_
      refine aw_goto (tgt := 28) dX6_holdClapper_24 (by decide) ?_
      refine aw_istore_n (i := 3) (lv' := [(0, .ref 1), (1, iI b), (2, iI x), (3, iI 1)]) [1, 2, 3, 0] dX6_holdClapper_28 rfl (by decide) rfl ?_
      refine aw_aload_n (i := 0) (q := 0) dX6_holdClapper_29 rfl rfl ?_
      refine aw_getR (r := 2) flX6_11 SH_1 (by decide) rfl (rk_1_0 hR) dX6_holdClapper_30 ?_
      refine aw_iload_n (i := 1) (q := 1) dX6_holdClapper_33 rfl rfl ?_
      refine aw_aald (r := 28 + (b).toNat) SH_2 (by decide) (by decide) ⟨by omega, by omega⟩ (hR.2.1 _ (by omega) (by omega)) dX6_holdClapper_34 ?_
      refine aw_iload_n (i := 2) (q := 2) dX6_holdClapper_35 rfl rfl ?_
      refine aw_putZk 5 flX6_290 (SH_bell ⟨by omega, by omega⟩) ⟨by omega, by omega⟩ rfl rfl rfl (by omega) dX6_holdClapper_36 ?_
      refine aw_iload_n (i := 3) (q := 3) dX6_holdClapper_39 rfl rfl ?_
      exact aw_iret ⟨_, rfl, rfl, rfl, (by (repeat' split) <;> omega), (fun h => by omega), (fun _ => rfl)⟩ (Nat.le_refl _) (Nat.le_refl _) dX6_holdClapper_40
  · refine aw_bipush (x := -2) dX6_holdClapper_8 rfl ?_
    exact aw_iret ⟨_, rfl, rfl, rfl, (by (repeat' split) <;> omega), (fun _ => rfl), (fun h => by omega)⟩ (Nat.le_refl _) (Nat.le_refl _) dX6_holdClapper_10
theorem s_X6_stopMotor {mr : aR} (hR : Rok mr) {mi : aM} {b : Int} (h_b : -2147483648 ≤ b ∧ b ≤ 2147483647) (hc : cB mi) : SPg yX6_stopMotor cX6_stopMotor 2 (some .int) 2 [.ref 1, iI b] mi mr (Pi mr (fun r m => r = (if 0 ≤ b ∧ b < mi 1 11 then (if mi (28 + b.toNat) 6 = 0 then -1 else mi (28 + b.toNat) 8) else -2) ∧ (r < 0 → m = mi) ∧ (0 ≤ r → m = aup mi (28 + b.toNat) 7 0))) := by
  refine SPg.int rfl (by decide +kernel) (Nat.le_of_ble_eq_true rfl) ?_
  show AWm RX6 cX6_stopMotor 2 2 _ 0 [(0, .ref 1), (1, iI b)] [] mi mr
  have hn := hc.1
  refine aw_aload_n (i := 0) (q := 0) dX6_stopMotor_0 rfl rfl ?_
  refine aw_iload_n (i := 1) (q := 1) dX6_stopMotor_1 rfl rfl ?_
  refine aw_cVp (As := [iI b]) (st := []) clX6_103 (s_X6_isBell hR (by omega)) SH_1 rfl (by decide) rfl rfl (Nat.le_of_ble_eq_true rfl) (by decide) (by decide) (Nat.le_refl _) (Nat.le_refl _) dX6_stopMotor_2 (fun v2 hv2 => ?_)
  refine aw_if_ne (tgt := 11) dX6_stopMotor_5 (by decide) (by first | assumption | omega) (fun c5 => ?_) (fun c5 => ?_)
  · obtain ⟨hk, -, -⟩ := hc.2.2 b.toNat (by omega)
    have hk8 := hk.2.2.2.2.2.2.2.2.1
    refine aw_aload_n (i := 0) (q := 0) dX6_stopMotor_11 rfl rfl ?_
    refine aw_getR (r := 2) flX6_11 SH_1 (by decide) rfl (rk_1_0 hR) dX6_stopMotor_12 ?_
    refine aw_iload_n (i := 1) (q := 1) dX6_stopMotor_15 rfl rfl ?_
    refine aw_aald (r := 28 + (b).toNat) SH_2 (by decide) (by decide) ⟨by omega, by omega⟩ (hR.2.1 _ (by omega) (by omega)) dX6_stopMotor_16 ?_
    refine aw_getIk (x := mi (28 + (b).toNat) 6) 6 flX6_162 (SH_bell ⟨by omega, by omega⟩) ⟨by omega, by omega⟩ rfl rfl rfl dX6_stopMotor_17 (fun r17 => ?_)
    refine aw_if_ne (tgt := 25) dX6_stopMotor_20 (by decide) (by first | assumption | omega) (fun c20 => ?_) (fun c20 => ?_)
    · refine aw_aload_n (i := 0) (q := 0) dX6_stopMotor_25 rfl rfl ?_
      refine aw_getR (r := 2) flX6_11 SH_1 (by decide) rfl (rk_1_0 hR) dX6_stopMotor_26 ?_
      refine aw_iload_n (i := 1) (q := 1) dX6_stopMotor_29 rfl rfl ?_
      refine aw_aald (r := 28 + (b).toNat) SH_2 (by decide) (by decide) ⟨by omega, by omega⟩ (hR.2.1 _ (by omega) (by omega)) dX6_stopMotor_30 ?_
      refine aw_iconst dX6_stopMotor_31 ?_
      refine aw_putZk 7 flX6_284 (SH_bell ⟨by omega, by omega⟩) ⟨by omega, by omega⟩ rfl rfl rfl (by decide) dX6_stopMotor_32 ?_
      refine aw_aload_n (i := 0) (q := 0) dX6_stopMotor_35 rfl rfl ?_
      refine aw_getR (r := 2) flX6_11 SH_1 (by decide) rfl (rk_1_0 hR) dX6_stopMotor_36 ?_
      refine aw_iload_n (i := 1) (q := 1) dX6_stopMotor_39 rfl rfl ?_
      refine aw_aald (r := 28 + (b).toNat) SH_2 (by decide) (by decide) ⟨by omega, by omega⟩ (hR.2.1 _ (by omega) (by omega)) dX6_stopMotor_40 ?_
      refine aw_getIk (x := mi (28 + (b).toNat) 8) 8 flX6_287 (SH_bell ⟨by omega, by omega⟩) ⟨by omega, by omega⟩ rfl rfl (by (rw [aup_k (by decide)]) <;> rfl) dX6_stopMotor_41 (fun r41 => ?_)
      exact aw_iret ⟨_, rfl, rfl, rfl, (by (repeat' split) <;> omega), (fun h => by omega), (fun _ => rfl)⟩ (Nat.le_refl _) (Nat.le_refl _) dX6_stopMotor_44
    · refine aw_iconst dX6_stopMotor_23 ?_
      exact aw_iret ⟨_, rfl, rfl, rfl, (by (repeat' split) <;> omega), (fun _ => rfl), (fun h => by omega)⟩ (Nat.le_refl _) (Nat.le_refl _) dX6_stopMotor_24
  · refine aw_bipush (x := -2) dX6_stopMotor_8 rfl ?_
    exact aw_iret ⟨_, rfl, rfl, rfl, (by (repeat' split) <;> omega), (fun _ => rfl), (fun h => by omega)⟩ (Nat.le_refl _) (Nat.le_refl _) dX6_stopMotor_10
theorem s_X6_recordBell {mr : aR} (hR : Rok mr) {mi : aM} {i : Int} (h_i : -2147483648 ≤ i ∧ i ≤ 2147483647) (hl : 0 ≤ mi 4 3 ∧ mi 4 3 ≤ 200) (hn : 0 ≤ mi 4 4 ∧ mi 4 4 < 200) : SPg yX6_recordBell cX6_recordBell 3 (some .int) 2 [.ref 1, iI i] mi mr (Pp mi mr (fun r => r = if i < 0 then -3 else if mi 4 3 ≤ i then -1 else if mi 4 4 - 1 - i < 0 then mi 5 (mi 4 4 - 1 - i + 200) else mi 5 (mi 4 4 - 1 - i))) := by
  refine SPg.pure rfl (by decide +kernel) (Nat.le_of_ble_eq_true rfl) ?_
  show AWm RX6 cX6_recordBell 3 2 _ 0 [(0, .ref 1), (1, iI i)] [] mi mr
  refine aw_iload_n (i := 1) (q := 1) dX6_recordBell_0 rfl rfl ?_
  refine aw_if_ge (tgt := 7) dX6_recordBell_1 (by decide) (by first | assumption | omega) (fun c1 => ?_) (fun c1 => ?_)
  · refine aw_aload_n (i := 0) (q := 0) dX6_recordBell_7 rfl rfl ?_
    refine aw_getR (r := 4) flX6_23 SH_1 (by decide) rfl (rk_1_2 hR) dX6_recordBell_8 ?_
    refine aw_iload_n (i := 1) (q := 1) dX6_recordBell_11 rfl rfl ?_
    refine aw_cVp (As := [iI i]) (st := []) clX6_121 (s_X5_slotOf hR (by omega) hl hn) SH_4 rfl (by decide) rfl rfl (Nat.le_of_ble_eq_true rfl) (by decide) (by decide) (Nat.le_refl _) (Nat.le_refl _) dX6_recordBell_12 (fun v12 hv12 => ?_)
    refine aw_istore_n (i := 2) (lv' := [(0, .ref 1), (1, iI i), (2, iI v12)]) [1, 2, 0] dX6_recordBell_15 rfl (by decide) rfl ?_
    refine aw_iload_n (i := 2) (q := 2) dX6_recordBell_16 rfl rfl ?_
    refine aw_if_ge (tgt := 24) dX6_recordBell_17 (by decide) (by first | assumption | omega) (fun c17 => ?_) (fun c17 => ?_)
    · refine aw_aload_n (i := 0) (q := 0) dX6_recordBell_24 rfl rfl ?_
      refine aw_getR (r := 4) flX6_23 SH_1 (by decide) rfl (rk_1_2 hR) dX6_recordBell_25 ?_
      refine aw_getR (r := 5) flX6_125 SH_4 (by decide) rfl (rk_4_0 hR) dX6_recordBell_28 ?_
      refine aw_iload_n (i := 2) (q := 2) dX6_recordBell_31 rfl rfl ?_
      refine aw_ialdv (x := mi 5 v12) SH_5 (by decide) ⟨by omega, by omega⟩ rfl dX6_recordBell_32 (fun r32 => ?_)
      exact aw_iret ⟨_, rfl, rfl, rfl, rfl, (by by_cases hq : mi 4 4 - 1 - i < 0; (rw [if_neg (by omega), if_neg (by omega), if_pos hq, show v12 = mi 4 4 - 1 - i + 200 by omega]); (rw [if_neg (by omega), if_neg (by omega), if_neg hq, show v12 = mi 4 4 - 1 - i by omega]))⟩ (Nat.le_refl _) (Nat.le_refl _) dX6_recordBell_33
    · refine aw_iconst dX6_recordBell_20 ?_
      refine aw_goto (tgt := 33) dX6_recordBell_21 (by decide) ?_
      exact aw_iret ⟨_, rfl, rfl, rfl, rfl, (by (repeat' split) <;> omega)⟩ (Nat.le_refl _) (Nat.le_refl _) dX6_recordBell_33
  · refine aw_bipush (x := -3) dX6_recordBell_4 rfl ?_
    exact aw_iret ⟨_, rfl, rfl, rfl, rfl, (by (repeat' split) <;> omega)⟩ (Nat.le_refl _) (Nat.le_refl _) dX6_recordBell_6
theorem s_X6_recordTime {mr : aR} (hR : Rok mr) {mi : aM} {i : Int} (h_i : -2147483648 ≤ i ∧ i ≤ 2147483647) (hl : 0 ≤ mi 4 3 ∧ mi 4 3 ≤ 200) (hn : 0 ≤ mi 4 4 ∧ mi 4 4 < 200) : SPg yX6_recordTime cX6_recordTime 3 (some .int) 2 [.ref 1, iI i] mi mr (Pp mi mr (fun r => r = if i < 0 then -3 else if mi 4 3 ≤ i then -1 else if mi 4 4 - 1 - i < 0 then mi 6 (mi 4 4 - 1 - i + 200) else mi 6 (mi 4 4 - 1 - i))) := by
  refine SPg.pure rfl (by decide +kernel) (Nat.le_of_ble_eq_true rfl) ?_
  show AWm RX6 cX6_recordTime 3 2 _ 0 [(0, .ref 1), (1, iI i)] [] mi mr
  refine aw_iload_n (i := 1) (q := 1) dX6_recordTime_0 rfl rfl ?_
  refine aw_if_ge (tgt := 7) dX6_recordTime_1 (by decide) (by first | assumption | omega) (fun c1 => ?_) (fun c1 => ?_)
  · refine aw_aload_n (i := 0) (q := 0) dX6_recordTime_7 rfl rfl ?_
    refine aw_getR (r := 4) flX6_23 SH_1 (by decide) rfl (rk_1_2 hR) dX6_recordTime_8 ?_
    refine aw_iload_n (i := 1) (q := 1) dX6_recordTime_11 rfl rfl ?_
    refine aw_cVp (As := [iI i]) (st := []) clX6_121 (s_X5_slotOf hR (by omega) hl hn) SH_4 rfl (by decide) rfl rfl (Nat.le_of_ble_eq_true rfl) (by decide) (by decide) (Nat.le_refl _) (Nat.le_refl _) dX6_recordTime_12 (fun v12 hv12 => ?_)
    refine aw_istore_n (i := 2) (lv' := [(0, .ref 1), (1, iI i), (2, iI v12)]) [1, 2, 0] dX6_recordTime_15 rfl (by decide) rfl ?_
    refine aw_iload_n (i := 2) (q := 2) dX6_recordTime_16 rfl rfl ?_
    refine aw_if_ge (tgt := 24) dX6_recordTime_17 (by decide) (by first | assumption | omega) (fun c17 => ?_) (fun c17 => ?_)
    · refine aw_aload_n (i := 0) (q := 0) dX6_recordTime_24 rfl rfl ?_
      refine aw_getR (r := 4) flX6_23 SH_1 (by decide) rfl (rk_1_2 hR) dX6_recordTime_25 ?_
      refine aw_getR (r := 6) flX6_127 SH_4 (by decide) rfl (rk_4_1 hR) dX6_recordTime_28 ?_
      refine aw_iload_n (i := 2) (q := 2) dX6_recordTime_31 rfl rfl ?_
      refine aw_ialdv (x := mi 6 v12) SH_6 (by decide) ⟨by omega, by omega⟩ rfl dX6_recordTime_32 (fun r32 => ?_)
      exact aw_iret ⟨_, rfl, rfl, rfl, rfl, (by by_cases hq : mi 4 4 - 1 - i < 0; (rw [if_neg (by omega), if_neg (by omega), if_pos hq, show v12 = mi 4 4 - 1 - i + 200 by omega]); (rw [if_neg (by omega), if_neg (by omega), if_neg hq, show v12 = mi 4 4 - 1 - i by omega]))⟩ (Nat.le_refl _) (Nat.le_refl _) dX6_recordTime_33
    · refine aw_iconst dX6_recordTime_20 ?_
      refine aw_goto (tgt := 33) dX6_recordTime_21 (by decide) ?_
      exact aw_iret ⟨_, rfl, rfl, rfl, rfl, (by (repeat' split) <;> omega)⟩ (Nat.le_refl _) (Nat.le_refl _) dX6_recordTime_33
  · refine aw_bipush (x := -3) dX6_recordTime_4 rfl ?_
    exact aw_iret ⟨_, rfl, rfl, rfl, rfl, (by (repeat' split) <;> omega)⟩ (Nat.le_refl _) (Nat.le_refl _) dX6_recordTime_6
theorem s_X6_recordClapper {mr : aR} (hR : Rok mr) {mi : aM} {i : Int} (h_i : -2147483648 ≤ i ∧ i ≤ 2147483647) (hl : 0 ≤ mi 4 3 ∧ mi 4 3 ≤ 200) (hn : 0 ≤ mi 4 4 ∧ mi 4 4 < 200) : SPg yX6_recordClapper cX6_recordClapper 3 (some .int) 2 [.ref 1, iI i] mi mr (Pp mi mr (fun r => r = if i < 0 then -3 else if mi 4 3 ≤ i then -1 else if mi 4 4 - 1 - i < 0 then mi 7 (mi 4 4 - 1 - i + 200) else mi 7 (mi 4 4 - 1 - i))) := by
  refine SPg.pure rfl (by decide +kernel) (Nat.le_of_ble_eq_true rfl) ?_
  show AWm RX6 cX6_recordClapper 3 2 _ 0 [(0, .ref 1), (1, iI i)] [] mi mr
  refine aw_iload_n (i := 1) (q := 1) dX6_recordClapper_0 rfl rfl ?_
  refine aw_if_ge (tgt := 7) dX6_recordClapper_1 (by decide) (by first | assumption | omega) (fun c1 => ?_) (fun c1 => ?_)
  · refine aw_aload_n (i := 0) (q := 0) dX6_recordClapper_7 rfl rfl ?_
    refine aw_getR (r := 4) flX6_23 SH_1 (by decide) rfl (rk_1_2 hR) dX6_recordClapper_8 ?_
    refine aw_iload_n (i := 1) (q := 1) dX6_recordClapper_11 rfl rfl ?_
    refine aw_cVp (As := [iI i]) (st := []) clX6_121 (s_X5_slotOf hR (by omega) hl hn) SH_4 rfl (by decide) rfl rfl (Nat.le_of_ble_eq_true rfl) (by decide) (by decide) (Nat.le_refl _) (Nat.le_refl _) dX6_recordClapper_12 (fun v12 hv12 => ?_)
    refine aw_istore_n (i := 2) (lv' := [(0, .ref 1), (1, iI i), (2, iI v12)]) [1, 2, 0] dX6_recordClapper_15 rfl (by decide) rfl ?_
    refine aw_iload_n (i := 2) (q := 2) dX6_recordClapper_16 rfl rfl ?_
    refine aw_if_ge (tgt := 24) dX6_recordClapper_17 (by decide) (by first | assumption | omega) (fun c17 => ?_) (fun c17 => ?_)
    · refine aw_aload_n (i := 0) (q := 0) dX6_recordClapper_24 rfl rfl ?_
      refine aw_getR (r := 4) flX6_23 SH_1 (by decide) rfl (rk_1_2 hR) dX6_recordClapper_25 ?_
      refine aw_getR (r := 7) flX6_130 SH_4 (by decide) rfl (rk_4_2 hR) dX6_recordClapper_28 ?_
      refine aw_iload_n (i := 2) (q := 2) dX6_recordClapper_31 rfl rfl ?_
      refine aw_ialdv (x := mi 7 v12) SH_7 (by decide) ⟨by omega, by omega⟩ rfl dX6_recordClapper_32 (fun r32 => ?_)
      exact aw_iret ⟨_, rfl, rfl, rfl, rfl, (by by_cases hq : mi 4 4 - 1 - i < 0; (rw [if_neg (by omega), if_neg (by omega), if_pos hq, show v12 = mi 4 4 - 1 - i + 200 by omega]); (rw [if_neg (by omega), if_neg (by omega), if_neg hq, show v12 = mi 4 4 - 1 - i by omega]))⟩ (Nat.le_refl _) (Nat.le_refl _) dX6_recordClapper_33
    · refine aw_iconst dX6_recordClapper_20 ?_
      refine aw_goto (tgt := 33) dX6_recordClapper_21 (by decide) ?_
      exact aw_iret ⟨_, rfl, rfl, rfl, rfl, (by (repeat' split) <;> omega)⟩ (Nat.le_refl _) (Nat.le_refl _) dX6_recordClapper_33
  · refine aw_bipush (x := -3) dX6_recordClapper_4 rfl ?_
    exact aw_iret ⟨_, rfl, rfl, rfl, rfl, (by (repeat' split) <;> omega)⟩ (Nat.le_refl _) (Nat.le_refl _) dX6_recordClapper_6
theorem s_X6_nextStroke {mr : aR} (hR : Rok mr) {mi : aM} {b : Int} (h_b : -2147483648 ≤ b ∧ b ≤ 2147483647) (hn : 0 ≤ mi 1 11 ∧ mi 1 11 ≤ 12) (ho : sOk mi 8) : SPg yX6_nextStroke cX6_nextStroke 2 (some .int) 2 [.ref 1, iI b] mi mr (Pp mi mr (fun r => (¬ (0 ≤ b ∧ b < mi 1 11) ∧ r = -2) ∨ ((0 ≤ b ∧ b < mi 1 11) ∧ ((∃ k : Int, 0 ≤ k ∧ k < mi 8 4 ∧ mi 9 k = b ∧ r = mi 11 k ∧ ∀ i : Int, 0 ≤ i → i < k → mi 9 i ≠ b) ∨ (r = -1 ∧ ∀ i : Int, 0 ≤ i → i < mi 8 4 → mi 9 i ≠ b))))) := by
  refine SPg.pure rfl (by decide +kernel) (Nat.le_of_ble_eq_true rfl) ?_
  show AWm RX6 cX6_nextStroke 2 2 _ 0 [(0, .ref 1), (1, iI b)] [] mi mr
  refine aw_aload_n (i := 0) (q := 0) dX6_nextStroke_0 rfl rfl ?_
  refine aw_iload_n (i := 1) (q := 1) dX6_nextStroke_1 rfl rfl ?_
  refine aw_cVp (As := [iI b]) (st := []) clX6_103 (s_X6_isBell hR (by omega)) SH_1 rfl (by decide) rfl rfl (Nat.le_of_ble_eq_true rfl) (by decide) (by decide) (Nat.le_refl _) (Nat.le_refl _) dX6_nextStroke_2 (fun v2 hv2 => ?_)
  refine aw_if_eq (tgt := 19) dX6_nextStroke_5 (by decide) (by first | assumption | omega) (fun c5 => ?_) (fun c5 => ?_)
  · refine aw_bipush (x := -2) dX6_nextStroke_19 rfl ?_
    exact aw_iret ⟨_, rfl, rfl, rfl, rfl, (Or.inl ⟨by omega, rfl⟩)⟩ (Nat.le_refl _) (Nat.le_refl _) dX6_nextStroke_21
  · refine aw_aload_n (i := 0) (q := 0) dX6_nextStroke_8 rfl rfl ?_
    refine aw_getR (r := 8) flX6_30 SH_1 (by decide) rfl (rk_1_3 hR) dX6_nextStroke_9 ?_
    refine aw_iload_n (i := 1) (q := 1) dX6_nextStroke_12 rfl rfl ?_
    refine aw_cVp (As := [iI b]) (st := []) clX6_155 (s_X4_firstTimeOf hR (Or.inl rfl) ho (by omega)) SH_8 rfl (by decide) rfl rfl (Nat.le_of_ble_eq_true rfl) (by decide) (by decide) (Nat.le_refl _) (Nat.le_refl _) dX6_nextStroke_13 (fun v13 hv13 => ?_)
    refine aw_goto (tgt := 21) dX6_nextStroke_16 (by decide) ?_
    exact aw_iret ⟨_, rfl, rfl, rfl, rfl, (Or.inr ⟨by clear hv13; omega, hv13⟩)⟩ (Nat.le_refl _) (Nat.le_refl _) dX6_nextStroke_21
theorem s_X6_commandTime {mr : aR} (hR : Rok mr) {mi : aM} {i : Int} (h_i : -2147483648 ≤ i ∧ i ≤ 2147483647) (ho : sOk mi 8) : SPg yX6_commandTime cX6_commandTime 2 (some .int) 1 [.ref 1, iI i] mi mr (Pp mi mr (fun r => r = if i < 0 then -3 else if i < mi 8 4 then mi 10 i else -1)) := by
  refine SPg.pure rfl (by decide +kernel) (Nat.le_of_ble_eq_true rfl) ?_
  show AWm RX6 cX6_commandTime 2 1 _ 0 [(0, .ref 1), (1, iI i)] [] mi mr
  have hc1 := ho.1
  refine aw_iload_n (i := 1) (q := 1) dX6_commandTime_0 rfl rfl ?_
  refine aw_if_ge (tgt := 7) dX6_commandTime_1 (by decide) (by first | assumption | omega) (fun c1 => ?_) (fun c1 => ?_)
  · refine aw_iload_n (i := 1) (q := 1) dX6_commandTime_7 rfl rfl ?_
    refine aw_aload_n (i := 0) (q := 0) dX6_commandTime_8 rfl rfl ?_
    refine aw_getR (r := 8) flX6_30 SH_1 (by decide) rfl (rk_1_3 hR) dX6_commandTime_9 ?_
    refine aw_getIk (x := mi 8 4) 4 flX6_152 SH_8 (by decide) rfl rfl rfl dX6_commandTime_12 (fun r12 => ?_)
    refine aw_icmp_ge (tgt := 30) dX6_commandTime_15 (by decide) (by first | assumption | omega) (by first | assumption | omega) (fun c15 => ?_) (fun c15 => ?_)
    · refine aw_iconst dX6_commandTime_30 ?_
      exact aw_iret ⟨_, rfl, rfl, rfl, rfl, (by (repeat' split) <;> omega)⟩ (Nat.le_refl _) (Nat.le_refl _) dX6_commandTime_31
    · refine aw_aload_n (i := 0) (q := 0) dX6_commandTime_18 rfl rfl ?_
      refine aw_getR (r := 8) flX6_30 SH_1 (by decide) rfl (rk_1_3 hR) dX6_commandTime_19 ?_
      refine aw_getR (r := 10) flX6_145 SH_8 (by decide) rfl (rk_8_1 hR) dX6_commandTime_22 ?_
      refine aw_iload_n (i := 1) (q := 1) dX6_commandTime_25 rfl rfl ?_
      refine aw_ialdv (x := mi 10 i) SH_10 (by decide) ⟨by omega, by omega⟩ rfl dX6_commandTime_26 (fun r26 => ?_)
      refine aw_goto (tgt := 31) dX6_commandTime_27 (by decide) ?_
      exact aw_iret ⟨_, rfl, rfl, rfl, rfl, (by (repeat' split) <;> omega)⟩ (Nat.le_refl _) (Nat.le_refl _) dX6_commandTime_31
  · refine aw_bipush (x := -3) dX6_commandTime_4 rfl ?_
    exact aw_iret ⟨_, rfl, rfl, rfl, rfl, (by (repeat' split) <;> omega)⟩ (Nat.le_refl _) (Nat.le_refl _) dX6_commandTime_6
theorem s_X6_commandBell {mr : aR} (hR : Rok mr) {mi : aM} {i : Int} (h_i : -2147483648 ≤ i ∧ i ≤ 2147483647) (ho : sOk mi 8) : SPg yX6_commandBell cX6_commandBell 2 (some .int) 1 [.ref 1, iI i] mi mr (Pp mi mr (fun r => r = if i < 0 then -3 else if i < mi 8 4 then mi 9 i else -1)) := by
  refine SPg.pure rfl (by decide +kernel) (Nat.le_of_ble_eq_true rfl) ?_
  show AWm RX6 cX6_commandBell 2 1 _ 0 [(0, .ref 1), (1, iI i)] [] mi mr
  have hc1 := ho.1
  refine aw_iload_n (i := 1) (q := 1) dX6_commandBell_0 rfl rfl ?_
  refine aw_if_ge (tgt := 7) dX6_commandBell_1 (by decide) (by first | assumption | omega) (fun c1 => ?_) (fun c1 => ?_)
  · refine aw_iload_n (i := 1) (q := 1) dX6_commandBell_7 rfl rfl ?_
    refine aw_aload_n (i := 0) (q := 0) dX6_commandBell_8 rfl rfl ?_
    refine aw_getR (r := 8) flX6_30 SH_1 (by decide) rfl (rk_1_3 hR) dX6_commandBell_9 ?_
    refine aw_getIk (x := mi 8 4) 4 flX6_152 SH_8 (by decide) rfl rfl rfl dX6_commandBell_12 (fun r12 => ?_)
    refine aw_icmp_ge (tgt := 30) dX6_commandBell_15 (by decide) (by first | assumption | omega) (by first | assumption | omega) (fun c15 => ?_) (fun c15 => ?_)
    · refine aw_iconst dX6_commandBell_30 ?_
      exact aw_iret ⟨_, rfl, rfl, rfl, rfl, (by (repeat' split) <;> omega)⟩ (Nat.le_refl _) (Nat.le_refl _) dX6_commandBell_31
    · refine aw_aload_n (i := 0) (q := 0) dX6_commandBell_18 rfl rfl ?_
      refine aw_getR (r := 8) flX6_30 SH_1 (by decide) rfl (rk_1_3 hR) dX6_commandBell_19 ?_
      refine aw_getR (r := 9) flX6_158 SH_8 (by decide) rfl (rk_8_0 hR) dX6_commandBell_22 ?_
      refine aw_iload_n (i := 1) (q := 1) dX6_commandBell_25 rfl rfl ?_
      refine aw_ialdv (x := mi 9 i) SH_9 (by decide) ⟨by omega, by omega⟩ rfl dX6_commandBell_26 (fun r26 => ?_)
      refine aw_goto (tgt := 31) dX6_commandBell_27 (by decide) ?_
      exact aw_iret ⟨_, rfl, rfl, rfl, rfl, (by (repeat' split) <;> omega)⟩ (Nat.le_refl _) (Nat.le_refl _) dX6_commandBell_31
  · refine aw_bipush (x := -3) dX6_commandBell_4 rfl ?_
    exact aw_iret ⟨_, rfl, rfl, rfl, rfl, (by (repeat' split) <;> omega)⟩ (Nat.le_refl _) (Nat.le_refl _) dX6_commandBell_6
theorem s_X6_movingHammers {mr : aR} (hR : Rok mr) {mi : aM} {t : Int} (h_t : -2147483648 ≤ t ∧ t ≤ 2147483647) (ho : sOk mi 8) : SPg yX6_movingHammers cX6_movingHammers 2 (some .int) 2 [.ref 1, iI t] mi mr (Pp mi mr (fun r => r = if mi 1 13 ≤ t ∧ t ≤ 100000 then cov (sL mi 8) t else -3)) := by
  refine SPg.pure rfl (by decide +kernel) (Nat.le_of_ble_eq_true rfl) ?_
  show AWm RX6 cX6_movingHammers 2 2 _ 0 [(0, .ref 1), (1, iI t)] [] mi mr
  refine aw_iload_n (i := 1) (q := 1) dX6_movingHammers_0 rfl rfl ?_
  refine aw_aload_n (i := 0) (q := 0) dX6_movingHammers_1 rfl rfl ?_
  refine aw_getIk (x := mi 1 13) 13 flX6_73 SH_1 (by decide) rfl rfl rfl dX6_movingHammers_2 (fun r2 => ?_)
  refine aw_ldc (x := 100000) coX6_107 rfl dX6_movingHammers_5 ?_
  refine aw_cSp (As := [iI t, iI (mi 1 13), iI 100000]) (st := []) clX6_87 (s_X6_outside hR (by omega) (by omega) (by omega)) rfl rfl (Nat.le_of_ble_eq_true rfl) (by decide) (by decide) (Nat.le_refl _) (Nat.le_refl _) dX6_movingHammers_7 (fun v7 hv7 => ?_)
  refine aw_if_eq (tgt := 18) dX6_movingHammers_10 (by decide) (by first | assumption | omega) (fun c10 => ?_) (fun c10 => ?_)
  · refine aw_aload_n (i := 0) (q := 0) dX6_movingHammers_18 rfl rfl ?_
    refine aw_getR (r := 8) flX6_30 SH_1 (by decide) rfl (rk_1_3 hR) dX6_movingHammers_19 ?_
    refine aw_iload_n (i := 1) (q := 1) dX6_movingHammers_22 rfl rfl ?_
    refine aw_cVp (As := [iI t]) (st := []) clX6_159 (s_X4_movingAt hR (Or.inl rfl) ho (by omega)) SH_8 rfl (by decide) rfl rfl (Nat.le_of_ble_eq_true rfl) (by decide) (by decide) (Nat.le_refl _) (Nat.le_refl _) dX6_movingHammers_23 (fun v23 hv23 => ?_)
    exact aw_iret ⟨_, rfl, rfl, rfl, rfl, (by rw [if_pos ⟨by omega, by omega⟩, ← covI_sL]; exact hv23)⟩ (Nat.le_refl _) (Nat.le_refl _) dX6_movingHammers_26
  · refine aw_bipush (x := -3) dX6_movingHammers_13 rfl ?_
    refine aw_goto (tgt := 26) dX6_movingHammers_15 (by decide) ?_
    exact aw_iret ⟨_, rfl, rfl, rfl, rfl, (by rw [if_neg (by omega)])⟩ (Nat.le_refl _) (Nat.le_refl _) dX6_movingHammers_26
theorem s_X6_stepBells {mr : aR} (hR : Rok mr) {mi : aM} {w k : Int} (h_w : -2147483648 ≤ w ∧ w ≤ 2147483647) (h_k : -2147483648 ≤ k ∧ k ≤ 2147483647) (hp : ∀ x : Int, 0 ≤ x → x < 5 → pOk mi (40 + 2 * x.toNat)) : SPg yX6_stepBells cX6_stepBells 4 (some .int) 2 [.ref 1, iI w, iI k] mi mr (Pp mi mr (fun r => r = if 0 ≤ w ∧ w < 5 then (if mi (40 + 2 * w.toNat) 1 = 0 then -9 else if 0 ≤ k ∧ k < mi (40 + 2 * w.toNat) 1 then mi (40 + 2 * w.toNat + 1) k else -1) else -2)) := by
  refine SPg.pure rfl (by decide +kernel) (Nat.le_of_ble_eq_true rfl) ?_
  show AWm RX6 cX6_stepBells 4 2 _ 0 [(0, .ref 1), (1, iI w), (2, iI k)] [] mi mr
  refine aw_iload_n (i := 1) (q := 1) dX6_stepBells_0 rfl rfl ?_
  refine aw_cSp (As := [iI w]) (st := []) clX6_181 (s_X6_isPattern hR (by omega)) rfl rfl (Nat.le_of_ble_eq_true rfl) (by decide) (by decide) (Nat.le_refl _) (Nat.le_refl _) dX6_stepBells_1 (fun v1 hv1 => ?_)
  refine aw_if_ne (tgt := 10) dX6_stepBells_4 (by decide) (by first | assumption | omega) (fun c4 => ?_) (fun c4 => ?_)
  · have hpo := (hp w (by omega) (by omega)).1
    refine aw_aload_n (i := 0) (q := 0) dX6_stepBells_10 rfl rfl ?_
    refine aw_getR (r := 23) flX6_46 SH_1 (by decide) rfl (rk_1_6 hR) dX6_stepBells_11 ?_
    refine aw_iload_n (i := 1) (q := 1) dX6_stepBells_14 rfl rfl ?_
    refine aw_aald (r := 40 + 2 * (w).toNat) SH_23 (by decide) (by decide) ⟨by omega, by omega⟩ (hR.2.2 _ (by omega) (by omega)) dX6_stepBells_15 ?_
    refine aw_astore_n (i := 3) (lv' := [(0, .ref 1), (1, iI w), (2, iI k), (3, .ref (40 + 2 * (w).toNat))]) [1, 2, 3, 0] dX6_stepBells_16 rfl (by decide) rfl ?_
    refine aw_aload_n (i := 3) (q := 3) dX6_stepBells_17 rfl rfl ?_
    refine aw_cVp (As := []) (st := []) clX6_205 (s_X2_isMissing hR (SH_pat ⟨by omega, by omega⟩).1 ⟨by omega, by omega⟩) (SH_pat ⟨by omega, by omega⟩).1 rfl ⟨by omega, by omega⟩ rfl rfl (Nat.le_of_ble_eq_true rfl) (by decide) (by decide) (Nat.le_refl _) (Nat.le_refl _) dX6_stepBells_18 (fun v18 hv18 => ?_)
    refine aw_if_eq (tgt := 27) dX6_stepBells_21 (by decide) (by first | assumption | omega) (fun c21 => ?_) (fun c21 => ?_)
    · refine aw_iload_n (i := 2) (q := 2) dX6_stepBells_27 rfl rfl ?_
      refine aw_if_lt (tgt := 39) dX6_stepBells_28 (by decide) (by first | assumption | omega) (fun c28 => ?_) (fun c28 => ?_)
      · refine aw_iconst dX6_stepBells_39 ?_
        refine aw_goto (tgt := 49) dX6_stepBells_40 (by decide) ?_
        exact aw_iret ⟨_, rfl, rfl, rfl, rfl, (by (repeat' split) <;> omega)⟩ (Nat.le_refl _) (Nat.le_refl _) dX6_stepBells_49
      · refine aw_iload_n (i := 2) (q := 2) dX6_stepBells_31 rfl rfl ?_
        refine aw_aload_n (i := 3) (q := 3) dX6_stepBells_32 rfl rfl ?_
        refine aw_getIk (x := mi (40 + 2 * (w).toNat) 1) 1 flX6_201 (SH_pat ⟨by omega, by omega⟩).1 ⟨by omega, by omega⟩ rfl rfl rfl dX6_stepBells_33 (fun r33 => ?_)
        refine aw_icmp_lt (tgt := 43) dX6_stepBells_36 (by decide) (by first | assumption | omega) (by first | assumption | omega) (fun c36 => ?_) (fun c36 => ?_)
        · refine aw_aload_n (i := 3) (q := 3) dX6_stepBells_43 rfl rfl ?_
          refine aw_getR (r := 40 + 2 * (w).toNat + 1) flX6_193 (SH_pat ⟨by omega, by omega⟩).1 ⟨by omega, by omega⟩ rfl (rk_pat hR ⟨by omega, by omega⟩) dX6_stepBells_44 ?_
          refine aw_iload_n (i := 2) (q := 2) dX6_stepBells_47 rfl rfl ?_
          refine aw_ialdv (x := mi (40 + 2 * (w).toNat + 1) k) (SH_pat ⟨by omega, by omega⟩).2 ⟨by omega, by omega⟩ ⟨by omega, by omega⟩ rfl dX6_stepBells_48 (fun r48 => ?_)
          exact aw_iret ⟨_, rfl, rfl, rfl, rfl, (by (repeat' split) <;> omega)⟩ (Nat.le_refl _) (Nat.le_refl _) dX6_stepBells_49
        · refine aw_iconst dX6_stepBells_39 ?_
          refine aw_goto (tgt := 49) dX6_stepBells_40 (by decide) ?_
          exact aw_iret ⟨_, rfl, rfl, rfl, rfl, (by (repeat' split) <;> omega)⟩ (Nat.le_refl _) (Nat.le_refl _) dX6_stepBells_49
    · refine aw_bipush (x := -9) dX6_stepBells_24 rfl ?_
      exact aw_iret ⟨_, rfl, rfl, rfl, rfl, (by (repeat' split) <;> omega)⟩ (Nat.le_refl _) (Nat.le_refl _) dX6_stepBells_26
  · refine aw_bipush (x := -2) dX6_stepBells_7 rfl ?_
    exact aw_iret ⟨_, rfl, rfl, rfl, rfl, (by (repeat' split) <;> omega)⟩ (Nat.le_refl _) (Nat.le_refl _) dX6_stepBells_9
theorem s_X6_patternStrokes {mr : aR} (hR : Rok mr) {mi : aM} {w : Int} (h_w : -2147483648 ≤ w ∧ w ≤ 2147483647) (hn : 0 ≤ mi 1 11 ∧ mi 1 11 ≤ 12) (hp : ∀ x : Int, 0 ≤ x → x < 5 → pOk mi (40 + 2 * x.toNat)) : SPg yX6_patternStrokes cX6_patternStrokes 3 (some .int) 3 [.ref 1, iI w] mi mr (Pp mi mr (fun r => r = if 0 ≤ w ∧ w < 5 then (if mi (40 + 2 * w.toNat) 1 = 0 then -9 else ptS (fun k => mi (40 + 2 * w.toNat + 1) k) (((2 ^ (mi 1 11).toNat : Nat) : Int) - 1) (mi (40 + 2 * w.toNat) 1).toNat) else -2)) := by
  refine SPg.pure rfl (by decide +kernel) (Nat.le_of_ble_eq_true rfl) ?_
  show AWm RX6 cX6_patternStrokes 3 3 _ 0 [(0, .ref 1), (1, iI w)] [] mi mr
  refine aw_iload_n (i := 1) (q := 1) dX6_patternStrokes_0 rfl rfl ?_
  refine aw_cSp (As := [iI w]) (st := []) clX6_181 (s_X6_isPattern hR (by omega)) rfl rfl (Nat.le_of_ble_eq_true rfl) (by decide) (by decide) (Nat.le_refl _) (Nat.le_refl _) dX6_patternStrokes_1 (fun v1 hv1 => ?_)
  refine aw_if_ne (tgt := 10) dX6_patternStrokes_4 (by decide) (by first | assumption | omega) (fun c4 => ?_) (fun c4 => ?_)
  · refine aw_aload_n (i := 0) (q := 0) dX6_patternStrokes_10 rfl rfl ?_
    refine aw_getR (r := 23) flX6_46 SH_1 (by decide) rfl (rk_1_6 hR) dX6_patternStrokes_11 ?_
    refine aw_iload_n (i := 1) (q := 1) dX6_patternStrokes_14 rfl rfl ?_
    refine aw_aald (r := 40 + 2 * (w).toNat) SH_23 (by decide) (by decide) ⟨by omega, by omega⟩ (hR.2.2 _ (by omega) (by omega)) dX6_patternStrokes_15 ?_
    refine aw_astore_n (i := 2) (lv' := [(0, .ref 1), (1, iI w), (2, .ref (40 + 2 * (w).toNat))]) [1, 2, 0] dX6_patternStrokes_16 rfl (by decide) rfl ?_
    refine aw_aload_n (i := 2) (q := 2) dX6_patternStrokes_17 rfl rfl ?_
    refine aw_cVp (As := []) (st := []) clX6_205 (s_X2_isMissing hR (SH_pat ⟨by omega, by omega⟩).1 ⟨by omega, by omega⟩) (SH_pat ⟨by omega, by omega⟩).1 rfl ⟨by omega, by omega⟩ rfl rfl (Nat.le_of_ble_eq_true rfl) (by decide) (by decide) (Nat.le_refl _) (Nat.le_refl _) dX6_patternStrokes_18 (fun v18 hv18 => ?_)
    refine aw_if_eq (tgt := 29) dX6_patternStrokes_21 (by decide) (by first | assumption | omega) (fun c21 => ?_) (fun c21 => ?_)
    · refine aw_aload_n (i := 2) (q := 2) dX6_patternStrokes_29 rfl rfl ?_
      refine aw_aload_n (i := 0) (q := 0) dX6_patternStrokes_30 rfl rfl ?_
      refine aw_cVp (As := []) (st := [.ref (40 + 2 * (w).toNat)]) clX6_208 (s_X6_existingBells hR hn) SH_1 rfl (by decide) rfl rfl (Nat.le_of_ble_eq_true rfl) (by decide) (by decide) (Nat.le_refl _) (Nat.le_refl _) dX6_patternStrokes_31 (fun v31 hv31 => ?_)
      refine aw_cVp (As := [iI v31]) (st := []) clX6_211 (s_X2_strokesOf hR (isP_of hR ⟨by omega, by omega⟩) (hp w (by omega) (by omega)) (by rw [hv31]; have := ex_set hn; omega)) (SH_pat ⟨by omega, by omega⟩).1 rfl ⟨by omega, by omega⟩ rfl rfl (Nat.le_of_ble_eq_true rfl) (by decide) (by decide) (Nat.le_refl _) (Nat.le_refl _) dX6_patternStrokes_34 (fun v34 hv34 => ?_)
      exact aw_iret ⟨_, rfl, rfl, rfl, rfl, (by rw [if_pos ⟨by omega, by omega⟩, if_neg (by omega), ← hv31]; exact hv34)⟩ (Nat.le_refl _) (Nat.le_refl _) dX6_patternStrokes_37
    · refine aw_bipush (x := -9) dX6_patternStrokes_24 rfl ?_
      refine aw_goto (tgt := 37) dX6_patternStrokes_26 (by decide) ?_
      exact aw_iret ⟨_, rfl, rfl, rfl, rfl, (by (repeat' split) <;> omega)⟩ (Nat.le_refl _) (Nat.le_refl _) dX6_patternStrokes_37
  · refine aw_bipush (x := -2) dX6_patternStrokes_7 rfl ?_
    exact aw_iret ⟨_, rfl, rfl, rfl, rfl, (by (repeat' split) <;> omega)⟩ (Nat.le_refl _) (Nat.le_refl _) dX6_patternStrokes_9
