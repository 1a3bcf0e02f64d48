-- part 10: the class, its leaves (printed by wip/whole/gen/p10.py)
theorem s_X6_outside {mr : aR} (hR : Rok mr) {mi : aM} {v a z : Int} (h_v : -2147483648 ≤ v ∧ v ≤ 2147483647) (h_a : -2147483648 ≤ a ∧ a ≤ 2147483647) (h_z : -2147483648 ≤ z ∧ z ≤ 2147483647) : SPg yX6_outside cX6_outside 3 (some .boolean) 1 [iI v, iI a, iI z] mi mr (Pp mi mr (fun r => (r = 1 ∧ (v < a ∨ z < v)) ∨ (r = 0 ∧ a ≤ v ∧ v ≤ z))) := by
  refine SPg.boolp rfl (by decide +kernel) (Nat.le_of_ble_eq_true rfl) (fun r h => by omega) ?_
  show AWm RX6 cX6_outside 3 1 _ 0 [(0, iI v), (1, iI a), (2, iI z)] [] mi mr
  refine aw_iload_n (i := 0) (q := 0) dX6_outside_0 rfl rfl ?_
  refine aw_iload_n (i := 1) (q := 1) dX6_outside_1 rfl rfl ?_
  refine aw_icmp_lt (tgt := 10) dX6_outside_2 (by decide) (by first | assumption | omega) (by first | assumption | omega) (fun c2 => ?_) (fun c2 => ?_)
  · refine aw_iconst dX6_outside_10 ?_
    refine aw_goto (tgt := 15) dX6_outside_11 (by decide) ?_
    exact aw_iret ⟨_, rfl, rfl, rfl, rfl, (by omega)⟩ (Nat.le_refl _) (Nat.le_refl _) dX6_outside_15
  · refine aw_iload_n (i := 0) (q := 0) dX6_outside_5 rfl rfl ?_
    refine aw_iload_n (i := 2) (q := 2) dX6_outside_6 rfl rfl ?_
    refine aw_icmp_le (tgt := 14) dX6_outside_7 (by decide) (by first | assumption | omega) (by first | assumption | omega) (fun c7 => ?_) (fun c7 => ?_)
    · refine aw_iconst dX6_outside_14 ?_
      exact aw_iret ⟨_, rfl, rfl, rfl, rfl, (by omega)⟩ (Nat.le_refl _) (Nat.le_refl _) dX6_outside_15
    · refine aw_iconst dX6_outside_10 ?_
      refine aw_goto (tgt := 15) dX6_outside_11 (by decide) ?_
      exact aw_iret ⟨_, rfl, rfl, rfl, rfl, (by omega)⟩ (Nat.le_refl _) (Nat.le_refl _) dX6_outside_15
theorem s_X6_isBell {mr : aR} (hR : Rok mr) {mi : aM} {b : Int} (h_b : -2147483648 ≤ b ∧ b ≤ 2147483647) : SPg yX6_isBell cX6_isBell 2 (some .boolean) 1 [.ref 1, iI b] mi mr (Pp mi mr (fun r => (r = 1 ∧ 0 ≤ b ∧ b < mi 1 11) ∨ (r = 0 ∧ (b < 0 ∨ mi 1 11 ≤ b)))) := by
  refine SPg.boolp rfl (by decide +kernel) (Nat.le_of_ble_eq_true rfl) (fun r h => by omega) ?_
  show AWm RX6 cX6_isBell 2 1 _ 0 [(0, .ref 1), (1, iI b)] [] mi mr
  refine aw_iload_n (i := 1) (q := 1) dX6_isBell_0 rfl rfl ?_
  refine aw_if_lt (tgt := 16) dX6_isBell_1 (by decide) (by first | assumption | omega) (fun c1 => ?_) (fun c1 => ?_)
  · refine aw_iconst dX6_isBell_16 ?_
    exact aw_iret ⟨_, rfl, rfl, rfl, rfl, (by omega)⟩ (Nat.le_refl _) (Nat.le_refl _) dX6_isBell_17
  · refine aw_iload_n (i := 1) (q := 1) dX6_isBell_4 rfl rfl ?_
    refine aw_aload_n (i := 0) (q := 0) dX6_isBell_5 rfl rfl ?_
    refine aw_getIk (x := mi 1 11) 11 flX6_66 SH_1 (by decide) rfl rfl rfl dX6_isBell_6 (fun r6 => ?_)
    refine aw_icmp_ge (tgt := 16) dX6_isBell_9 (by decide) (by first | assumption | omega) (by first | assumption | omega) (fun c9 => ?_) (fun c9 => ?_)
    · refine aw_iconst dX6_isBell_16 ?_
      exact aw_iret ⟨_, rfl, rfl, rfl, rfl, (by omega)⟩ (Nat.le_refl _) (Nat.le_refl _) dX6_isBell_17
    · refine aw_iconst dX6_isBell_12 ?_
      refine aw_goto (tgt := 17) dX6_isBell_13 (by decide) ?_
      exact aw_iret ⟨_, rfl, rfl, rfl, rfl, (by omega)⟩ (Nat.le_refl _) (Nat.le_refl _) dX6_isBell_17
theorem s_X6_isPattern {mr : aR} (hR : Rok mr) {mi : aM} {b : Int} (h_b : -2147483648 ≤ b ∧ b ≤ 2147483647) : SPg yX6_isPattern cX6_isPattern 1 (some .boolean) 1 [iI b] mi mr (Pp mi mr (fun r => (r = 1 ∧ 0 ≤ b ∧ b < 5) ∨ (r = 0 ∧ (b < 0 ∨ 5 ≤ b)))) := by
  refine SPg.boolp rfl (by decide +kernel) (Nat.le_of_ble_eq_true rfl) (fun r h => by omega) ?_
  show AWm RX6 cX6_isPattern 1 1 _ 0 [(0, iI b)] [] mi mr
  refine aw_iload_n (i := 0) (q := 0) dX6_isPattern_0 rfl rfl ?_
  refine aw_if_lt (tgt := 13) dX6_isPattern_1 (by decide) (by first | assumption | omega) (fun c1 => ?_) (fun c1 => ?_)
  · refine aw_iconst dX6_isPattern_13 ?_
    exact aw_iret ⟨_, rfl, rfl, rfl, rfl, (by omega)⟩ (Nat.le_refl _) (Nat.le_refl _) dX6_isPattern_14
  · refine aw_iload_n (i := 0) (q := 0) dX6_isPattern_4 rfl rfl ?_
    refine aw_iconst dX6_isPattern_5 ?_
    refine aw_icmp_ge (tgt := 13) dX6_isPattern_6 (by decide) (by first | assumption | omega) (by decide) (fun c6 => ?_) (fun c6 => ?_)
    · refine aw_iconst dX6_isPattern_13 ?_
      exact aw_iret ⟨_, rfl, rfl, rfl, rfl, (by omega)⟩ (Nat.le_refl _) (Nat.le_refl _) dX6_isPattern_14
    · refine aw_iconst dX6_isPattern_9 ?_
      refine aw_goto (tgt := 14) dX6_isPattern_10 (by decide) ?_
      exact aw_iret ⟨_, rfl, rfl, rfl, rfl, (by omega)⟩ (Nat.le_refl _) (Nat.le_refl _) dX6_isPattern_14
theorem s_X6_isEntry {mr : aR} (hR : Rok mr) {mi : aM} {b : Int} (h_b : -2147483648 ≤ b ∧ b ≤ 2147483647) : SPg yX6_isEntry cX6_isEntry 2 (some .boolean) 1 [.ref 1, iI b] mi mr (Pp mi mr (fun r => (r = 1 ∧ 0 ≤ b ∧ b < mi 1 12) ∨ (r = 0 ∧ (b < 0 ∨ mi 1 12 ≤ b)))) := by
  refine SPg.boolp rfl (by decide +kernel) (Nat.le_of_ble_eq_true rfl) (fun r h => by omega) ?_
  show AWm RX6 cX6_isEntry 2 1 _ 0 [(0, .ref 1), (1, iI b)] [] mi mr
  refine aw_iload_n (i := 1) (q := 1) dX6_isEntry_0 rfl rfl ?_
  refine aw_if_lt (tgt := 16) dX6_isEntry_1 (by decide) (by first | assumption | omega) (fun c1 => ?_) (fun c1 => ?_)
  · refine aw_iconst dX6_isEntry_16 ?_
    exact aw_iret ⟨_, rfl, rfl, rfl, rfl, (by omega)⟩ (Nat.le_refl _) (Nat.le_refl _) dX6_isEntry_17
  · refine aw_iload_n (i := 1) (q := 1) dX6_isEntry_4 rfl rfl ?_
    refine aw_aload_n (i := 0) (q := 0) dX6_isEntry_5 rfl rfl ?_
    refine aw_getIk (x := mi 1 12) 12 flX6_70 SH_1 (by decide) rfl rfl rfl dX6_isEntry_6 (fun r6 => ?_)
    refine aw_icmp_ge (tgt := 16) dX6_isEntry_9 (by decide) (by first | assumption | omega) (by first | assumption | omega) (fun c9 => ?_) (fun c9 => ?_)
    · refine aw_iconst dX6_isEntry_16 ?_
      exact aw_iret ⟨_, rfl, rfl, rfl, rfl, (by omega)⟩ (Nat.le_refl _) (Nat.le_refl _) dX6_isEntry_17
    · refine aw_iconst dX6_isEntry_12 ?_
      refine aw_goto (tgt := 17) dX6_isEntry_13 (by decide) ?_
      exact aw_iret ⟨_, rfl, rfl, rfl, rfl, (by omega)⟩ (Nat.le_refl _) (Nat.le_refl _) dX6_isEntry_17
theorem s_X6_bellCount {mr : aR} (hR : Rok mr) {mi : aM}  : SPg yX6_bellCount cX6_bellCount 1 (some .int) 1 [.ref 1] mi mr (Pp mi mr (fun r => r = mi 1 11)) := by
  refine SPg.pure rfl (by decide +kernel) (Nat.le_of_ble_eq_true rfl) ?_
  show AWm RX6 cX6_bellCount 1 1 _ 0 [(0, .ref 1)] [] mi mr
  refine aw_aload_n (i := 0) (q := 0) dX6_bellCount_0 rfl rfl ?_
  refine aw_getIk (x := mi 1 11) 11 flX6_66 SH_1 (by decide) rfl rfl rfl dX6_bellCount_1 (fun r1 => ?_)
  exact aw_iret ⟨_, rfl, rfl, rfl, rfl, rfl⟩ (Nat.le_refl _) (Nat.le_refl _) dX6_bellCount_4
theorem s_X6_currentTime {mr : aR} (hR : Rok mr) {mi : aM}  : SPg yX6_currentTime cX6_currentTime 1 (some .int) 1 [.ref 1] mi mr (Pp mi mr (fun r => r = mi 1 13)) := by
  refine SPg.pure rfl (by decide +kernel) (Nat.le_of_ble_eq_true rfl) ?_
  show AWm RX6 cX6_currentTime 1 1 _ 0 [(0, .ref 1)] [] mi mr
  refine aw_aload_n (i := 0) (q := 0) dX6_currentTime_0 rfl rfl ?_
  refine aw_getIk (x := mi 1 13) 13 flX6_73 SH_1 (by decide) rfl rfl rfl dX6_currentTime_1 (fun r1 => ?_)
  exact aw_iret ⟨_, rfl, rfl, rfl, rfl, rfl⟩ (Nat.le_refl _) (Nat.le_refl _) dX6_currentTime_4
theorem s_X6_entryCount {mr : aR} (hR : Rok mr) {mi : aM}  : SPg yX6_entryCount cX6_entryCount 1 (some .int) 1 [.ref 1] mi mr (Pp mi mr (fun r => r = mi 1 12)) := by
  refine SPg.pure rfl (by decide +kernel) (Nat.le_of_ble_eq_true rfl) ?_
  show AWm RX6 cX6_entryCount 1 1 _ 0 [(0, .ref 1)] [] mi mr
  refine aw_aload_n (i := 0) (q := 0) dX6_entryCount_0 rfl rfl ?_
  refine aw_getIk (x := mi 1 12) 12 flX6_70 SH_1 (by decide) rfl rfl rfl dX6_entryCount_1 (fun r1 => ?_)
  exact aw_iret ⟨_, rfl, rfl, rfl, rfl, rfl⟩ (Nat.le_refl _) (Nat.le_refl _) dX6_entryCount_4
theorem s_X6_failureCount {mr : aR} (hR : Rok mr) {mi : aM}  : SPg yX6_failureCount cX6_failureCount 1 (some .int) 1 [.ref 1] mi mr (Pp mi mr (fun r => r = mi 1 16)) := by
  refine SPg.pure rfl (by decide +kernel) (Nat.le_of_ble_eq_true rfl) ?_
  show AWm RX6 cX6_failureCount 1 1 _ 0 [(0, .ref 1)] [] mi mr
  refine aw_aload_n (i := 0) (q := 0) dX6_failureCount_0 rfl rfl ?_
  refine aw_getIk (x := mi 1 16) 16 flX6_82 SH_1 (by decide) rfl rfl rfl dX6_failureCount_1 (fun r1 => ?_)
  exact aw_iret ⟨_, rfl, rfl, rfl, rfl, rfl⟩ (Nat.le_refl _) (Nat.le_refl _) dX6_failureCount_4
theorem s_X6_recordLength {mr : aR} (hR : Rok mr) {mi : aM}  : SPg yX6_recordLength cX6_recordLength 1 (some .int) 1 [.ref 1] mi mr (Pp mi mr (fun r => r = mi 4 3)) := by
  refine SPg.pure rfl (by decide +kernel) (Nat.le_of_ble_eq_true rfl) ?_
  show AWm RX6 cX6_recordLength 1 1 _ 0 [(0, .ref 1)] [] mi mr
  refine aw_aload_n (i := 0) (q := 0) dX6_recordLength_0 rfl rfl ?_
  refine aw_getR (r := 4) flX6_23 SH_1 (by decide) rfl (rk_1_2 hR) dX6_recordLength_1 ?_
  refine aw_getIk (x := mi 4 3) 3 flX6_118 SH_4 (by decide) rfl rfl rfl dX6_recordLength_4 (fun r4 => ?_)
  exact aw_iret ⟨_, rfl, rfl, rfl, rfl, rfl⟩ (Nat.le_refl _) (Nat.le_refl _) dX6_recordLength_7
theorem s_X6_scheduledCount {mr : aR} (hR : Rok mr) {mi : aM}  : SPg yX6_scheduledCount cX6_scheduledCount 1 (some .int) 1 [.ref 1] mi mr (Pp mi mr (fun r => r = mi 8 4)) := by
  refine SPg.pure rfl (by decide +kernel) (Nat.le_of_ble_eq_true rfl) ?_
  show AWm RX6 cX6_scheduledCount 1 1 _ 0 [(0, .ref 1)] [] mi mr
  refine aw_aload_n (i := 0) (q := 0) dX6_scheduledCount_0 rfl rfl ?_
  refine aw_getR (r := 8) flX6_30 SH_1 (by decide) rfl (rk_1_3 hR) dX6_scheduledCount_1 ?_
  refine aw_getIk (x := mi 8 4) 4 flX6_152 SH_8 (by decide) rfl rfl rfl dX6_scheduledCount_4 (fun r4 => ?_)
  exact aw_iret ⟨_, rfl, rfl, rfl, rfl, rfl⟩ (Nat.le_refl _) (Nat.le_refl _) dX6_scheduledCount_7
theorem s_X6_patternError {mr : aR} (hR : Rok mr) {mi : aM}  : SPg yX6_patternError cX6_patternError 1 (some .int) 1 [.ref 1] mi mr (Pp mi mr (fun r => r = mi 18 4)) := by
  refine SPg.pure rfl (by decide +kernel) (Nat.le_of_ble_eq_true rfl) ?_
  show AWm RX6 cX6_patternError 1 1 _ 0 [(0, .ref 1)] [] mi mr
  refine aw_aload_n (i := 0) (q := 0) dX6_patternError_0 rfl rfl ?_
  refine aw_getR (r := 18) flX6_40 SH_1 (by decide) rfl (rk_1_5 hR) dX6_patternError_1 ?_
  refine aw_getIk (x := mi 18 4) 4 flX6_187 SH_18 (by decide) rfl rfl rfl dX6_patternError_4 (fun r4 => ?_)
  exact aw_iret ⟨_, rfl, rfl, rfl, rfl, rfl⟩ (Nat.le_refl _) (Nat.le_refl _) dX6_patternError_7
theorem s_X6_patternErrorPosition {mr : aR} (hR : Rok mr) {mi : aM}  : SPg yX6_patternErrorPosition cX6_patternErrorPosition 1 (some .int) 1 [.ref 1] mi mr (Pp mi mr (fun r => r = mi 18 5)) := by
  refine SPg.pure rfl (by decide +kernel) (Nat.le_of_ble_eq_true rfl) ?_
  show AWm RX6 cX6_patternErrorPosition 1 1 _ 0 [(0, .ref 1)] [] mi mr
  refine aw_aload_n (i := 0) (q := 0) dX6_patternErrorPosition_0 rfl rfl ?_
  refine aw_getR (r := 18) flX6_40 SH_1 (by decide) rfl (rk_1_5 hR) dX6_patternErrorPosition_1 ?_
  refine aw_getIk (x := mi 18 5) 5 flX6_202 SH_18 (by decide) rfl rfl rfl dX6_patternErrorPosition_4 (fun r4 => ?_)
  exact aw_iret ⟨_, rfl, rfl, rfl, rfl, rfl⟩ (Nat.le_refl _) (Nat.le_refl _) dX6_patternErrorPosition_7
theorem s_X0_turnTime {mr : aR} (hR : Rok mr) {mi : aM} {a : Nat} (hsa : SH a = (0, 0)) (haa : 0 < a ∧ a ≤ 94)  : SPg yX0_turnTime cX0_turnTime 1 (some .int) 1 [.ref a] mi mr (Pp mi mr (fun r => r = mi a 11 + mi a 3)) := by
  refine SPg.pure rfl (by decide +kernel) (Nat.le_of_ble_eq_true rfl) ?_
  show AWm RX0 cX0_turnTime 1 1 _ 0 [(0, .ref a)] [] mi mr
  refine aw_aload_n (i := 0) (q := 0) dX0_turnTime_0 rfl rfl ?_
  refine aw_getIk (x := mi a 11) 11 flX0_46 hsa haa rfl rfl rfl dX0_turnTime_1 (fun r1 => ?_)
  refine aw_aload_n (i := 0) (q := 0) dX0_turnTime_4 rfl rfl ?_
  refine aw_getIk (x := mi a 3) 3 flX0_21 hsa haa rfl rfl rfl dX0_turnTime_5 (fun r5 => ?_)
  refine aw_iadd dX0_turnTime_8 ?_
  exact aw_iret ⟨_, rfl, rfl, rfl, rfl, rfl⟩ (Nat.le_refl _) (Nat.le_refl _) dX0_turnTime_9
theorem s_X0_turnsAt {mr : aR} (hR : Rok mr) {mi : aM} {a : Nat} (hsa : SH a = (0, 0)) (haa : 0 < a ∧ a ≤ 94) {t : Int} (h_t : -2147483648 ≤ t ∧ t ≤ 2147483647) (hz : -1000000 ≤ mi a 11 ∧ mi a 11 ≤ 1000000) (hy : 0 ≤ mi a 3 ∧ mi a 3 ≤ 100) : SPg yX0_turnsAt cX0_turnsAt 2 (some .boolean) 2 [.ref a, iI t] mi mr (Pp mi mr (fun r => (r = 1 ∧ mi a 6 ≠ 0 ∧ t = mi a 11 + mi a 3) ∨ (r = 0 ∧ (mi a 6 = 0 ∨ t ≠ mi a 11 + mi a 3)))) := by
  refine SPg.boolp rfl (by decide +kernel) (Nat.le_of_ble_eq_true rfl) (fun r h => by omega) ?_
  show AWm RX0 cX0_turnsAt 2 2 _ 0 [(0, .ref a), (1, iI t)] [] mi mr
  refine aw_aload_n (i := 0) (q := 0) dX0_turnsAt_0 rfl rfl ?_
  refine aw_getIk (x := mi a 6) 6 flX0_31 hsa haa rfl rfl rfl dX0_turnsAt_1 (fun r1 => ?_)
  refine aw_if_eq (tgt := 19) dX0_turnsAt_4 (by decide) (by first | assumption | omega) (fun c4 => ?_) (fun c4 => ?_)
  · refine aw_iconst dX0_turnsAt_19 ?_
    exact aw_iret ⟨_, rfl, rfl, rfl, rfl, (by omega)⟩ (Nat.le_refl _) (Nat.le_refl _) dX0_turnsAt_20
  · refine aw_iload_n (i := 1) (q := 1) dX0_turnsAt_7 rfl rfl ?_
    refine aw_aload_n (i := 0) (q := 0) dX0_turnsAt_8 rfl rfl ?_
    refine aw_cVp (As := []) (st := [iI t]) clX0_49 (s_X0_turnTime hR hsa haa) hsa rfl haa rfl rfl (Nat.le_of_ble_eq_true rfl) (by decide) (by decide) (Nat.le_refl _) (Nat.le_refl _) dX0_turnsAt_9 (fun rv hrv => ?_)
    subst hrv
    refine aw_icmp_ne (tgt := 19) dX0_turnsAt_12 (by decide) (by first | assumption | omega) (by first | assumption | omega) (fun c12 => ?_) (fun c12 => ?_)
    · refine aw_iconst dX0_turnsAt_19 ?_
      exact aw_iret ⟨_, rfl, rfl, rfl, rfl, (by omega)⟩ (Nat.le_refl _) (Nat.le_refl _) dX0_turnsAt_20
    · refine aw_iconst dX0_turnsAt_15 ?_
      refine aw_goto (tgt := 20) dX0_turnsAt_16 (by decide) ?_
      exact aw_iret ⟨_, rfl, rfl, rfl, rfl, (by omega)⟩ (Nat.le_refl _) (Nat.le_refl _) dX0_turnsAt_20
theorem s_X4_isFull {mr : aR} (hR : Rok mr) {mi : aM} {a : Nat} (hs : isS a) : SPg yX4_isFull cX4_isFull 1 (some .boolean) 1 [.ref a] mi mr (Pp mi mr (fun r => (r = 1 ∧ 300 ≤ mi a 4) ∨ (r = 0 ∧ mi a 4 < 300))) := by
  refine SPg.boolp rfl (by decide +kernel) (Nat.le_of_ble_eq_true rfl) (fun r h => by omega) ?_
  show AWm RX4 cX4_isFull 1 1 _ 0 [(0, .ref a)] [] mi mr
  refine aw_aload_n (i := 0) (q := 0) dX4_isFull_0 rfl rfl ?_
  refine aw_getIk (x := mi a 4) 4 flX4_24 (isS_SH hs).1 (isS_ok hs).1 rfl rfl rfl dX4_isFull_1 (fun r1 => ?_)
  refine aw_sipush (x := 300) dX4_isFull_4 rfl ?_
  refine aw_icmp_lt (tgt := 14) dX4_isFull_7 (by decide) (by first | assumption | omega) (by decide) (fun c7 => ?_) (fun c7 => ?_)
  · refine aw_iconst dX4_isFull_14 ?_
    exact aw_iret ⟨_, rfl, rfl, rfl, rfl, (by omega)⟩ (Nat.le_refl _) (Nat.le_refl _) dX4_isFull_15
  · refine aw_iconst dX4_isFull_10 ?_
    refine aw_goto (tgt := 15) dX4_isFull_11 (by decide) ?_
    exact aw_iret ⟨_, rfl, rfl, rfl, rfl, (by omega)⟩ (Nat.le_refl _) (Nat.le_refl _) dX4_isFull_15
theorem s_X2_isMissing {mr : aR} (hR : Rok mr) {mi : aM} {a : Nat} (hsa : SH a = (0, 2)) (haa : 0 < a ∧ a ≤ 94) : SPg yX2_isMissing cX2_isMissing 1 (some .boolean) 1 [.ref a] mi mr (Pp mi mr (fun r => (r = 1 ∧ mi a 1 = 0) ∨ (r = 0 ∧ mi a 1 ≠ 0))) := by
  refine SPg.boolp rfl (by decide +kernel) (Nat.le_of_ble_eq_true rfl) (fun r h => by omega) ?_
  show AWm RX2 cX2_isMissing 1 1 _ 0 [(0, .ref a)] [] mi mr
  refine aw_aload_n (i := 0) (q := 0) dX2_isMissing_0 rfl rfl ?_
  refine aw_getIk (x := mi a 1) 1 flX2_15 hsa haa rfl rfl rfl dX2_isMissing_1 (fun r1 => ?_)
  refine aw_if_ne (tgt := 11) dX2_isMissing_4 (by decide) (by first | assumption | omega) (fun c4 => ?_) (fun c4 => ?_)
  · refine aw_iconst dX2_isMissing_11 ?_
    exact aw_iret ⟨_, rfl, rfl, rfl, rfl, (by omega)⟩ (Nat.le_refl _) (Nat.le_refl _) dX2_isMissing_12
  · refine aw_iconst dX2_isMissing_7 ?_
    refine aw_goto (tgt := 12) dX2_isMissing_8 (by decide) ?_
    exact aw_iret ⟨_, rfl, rfl, rfl, rfl, (by omega)⟩ (Nat.le_refl _) (Nat.le_refl _) dX2_isMissing_12
theorem s_X5_slotOf {mr : aR} (hR : Rok mr) {mi : aM} {i : Int} (h_i : -2147483648 ≤ i ∧ i ≤ 2147483647) (hl : 0 ≤ mi 4 3 ∧ mi 4 3 ≤ 200) (hn : 0 ≤ mi 4 4 ∧ mi 4 4 < 200) : SPg yX5_slotOf cX5_slotOf 3 (some .int) 1 [.ref 4, iI i] mi mr (Pp mi mr (fun r => ((i < 0 ∨ mi 4 3 ≤ i) ∧ r = -1) ∨ (0 ≤ i ∧ i < mi 4 3 ∧ ((mi 4 4 - 1 - i < 0 ∧ r = mi 4 4 - 1 - i + 200) ∨ (0 ≤ mi 4 4 - 1 - i ∧ r = mi 4 4 - 1 - i))))) := by
  refine SPg.pure rfl (by decide +kernel) (Nat.le_of_ble_eq_true rfl) ?_
  show AWm RX5 cX5_slotOf 3 1 _ 0 [(0, .ref 4), (1, iI i)] [] mi mr
  refine aw_iload_n (i := 1) (q := 1) dX5_slotOf_0 rfl rfl ?_
  refine aw_if_lt (tgt := 12) dX5_slotOf_1 (by decide) (by first | assumption | omega) (fun c1 => ?_) (fun c1 => ?_)
  · refine aw_iconst dX5_slotOf_12 ?_
    exact aw_iret ⟨_, rfl, rfl, rfl, rfl, (by omega)⟩ (Nat.le_refl _) (Nat.le_refl _) dX5_slotOf_13
  · refine aw_iload_n (i := 1) (q := 1) dX5_slotOf_4 rfl rfl ?_
    refine aw_aload_n (i := 0) (q := 0) dX5_slotOf_5 rfl rfl ?_
    refine aw_getIk (x := mi 4 3) 3 flX5_21 SH_4 (by decide) rfl rfl rfl dX5_slotOf_6 (fun r6 => ?_)
    refine aw_icmp_lt (tgt := 14) dX5_slotOf_9 (by decide) (by first | assumption | omega) (by first | assumption | omega) (fun c9 => ?_) (fun c9 => ?_)
    · refine aw_aload_n (i := 0) (q := 0) dX5_slotOf_14 rfl rfl ?_
      refine aw_getIk (x := mi 4 4) 4 flX5_25 SH_4 (by decide) rfl rfl rfl dX5_slotOf_15 (fun r15 => ?_)
      refine aw_iconst dX5_slotOf_18 ?_
      refine aw_isub dX5_slotOf_19 ?_
      refine aw_iload_n (i := 1) (q := 1) dX5_slotOf_20 rfl rfl ?_
      refine aw_isub dX5_slotOf_21 ?_
      refine aw_istore_n (i := 2) (lv' := [(0, .ref 4), (1, iI i), (2, iI (((mi 4 4) - 1) - i))]) [1, 2, 0] dX5_slotOf_22 rfl (by decide) rfl ?_
      refine aw_iload_n (i := 2) (q := 2) dX5_slotOf_23 rfl rfl ?_
      refine aw_if_ge (tgt := 35) dX5_slotOf_24 (by decide) (by first | assumption | omega) (fun c24 => ?_) (fun c24 => ?_)
      · refine aw_iload_n (i := 2) (q := 2) dX5_slotOf_35 rfl rfl ?_
        exact aw_iret ⟨_, rfl, rfl, rfl, rfl, (by omega)⟩ (Nat.le_refl _) (Nat.le_refl _) dX5_slotOf_36
      · refine aw_iload_n (i := 2) (q := 2) dX5_slotOf_27 rfl rfl ?_
        refine aw_sipush (x := 200) dX5_slotOf_28 rfl ?_
        refine aw_iadd dX5_slotOf_31 ?_
        refine aw_goto (tgt := 36) dX5_slotOf_32 (by decide) ?_
        exact aw_iret ⟨_, rfl, rfl, rfl, rfl, (by omega)⟩ (Nat.le_refl _) (Nat.le_refl _) dX5_slotOf_36
    · refine aw_iconst dX5_slotOf_12 ?_
      exact aw_iret ⟨_, rfl, rfl, rfl, rfl, (by omega)⟩ (Nat.le_refl _) (Nat.le_refl _) dX5_slotOf_13
