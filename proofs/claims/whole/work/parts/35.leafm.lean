-- part 35: the model: leaves and plain methods (printed by wip/whole/gen/p35.py)
theorem s_X7_isIn {mr : aR} (hR : Rok mr) {mi : aM} {x l u : Int} (hx : -9000000000 ≤ x ∧ x ≤ 9000000000) (hl : -9000000000 ≤ l ∧ l ≤ 9000000000) (hu : -9000000000 ≤ u ∧ u ≤ 9000000000) : SPg yX7_isIn cX7_isIn 6 (some .boolean) 1 [lL x, lL l, lL u] mi mr (Pp mi mr (fun r => (r = 1 ∧ l ≤ x ∧ x ≤ u) ∨ (r = 0 ∧ (x < l ∨ u < x)))) := by
  refine SPg.boolp rfl (by decide +kernel) (Nat.le_of_ble_eq_true rfl) (fun r h => by omega) ?_
  show AWm RX7 cX7_isIn 6 1 _ 0 [(0, lL x), (2, lL l), (4, lL u)] [] mi mr
  refine aw_lload_n (i := 0) (q := 0) dX7_isIn_0 rfl rfl ?_
  refine aw_lload_n (i := 2) (q := 1) dX7_isIn_1 rfl rfl ?_
  refine aw_lcmp dX7_isIn_2 (by omega) (by omega) ?_
  refine aw_if_lt (tgt := 17) dX7_isIn_3 (by decide) (by split <;> first | omega | (split <;> omega)) (fun c3 => ?_) (fun c3 => ?_)
  · have c3 : x < l := by revert c3; split <;> first | omega | (split <;> omega)
    refine aw_iconst dX7_isIn_17 ?_
    exact aw_iret ⟨_, rfl, rfl, rfl, rfl, (by omega)⟩ (Nat.le_refl _) (Nat.le_refl _) dX7_isIn_18
  · have c3 : x ≥ l := by revert c3; split <;> first | omega | (split <;> omega)
    refine aw_lload_n (i := 0) (q := 0) dX7_isIn_6 rfl rfl ?_
    refine aw_lload (i := 4) (q := 2) dX7_isIn_7 rfl ?_
    refine aw_lcmp dX7_isIn_9 (by omega) (by omega) ?_
    refine aw_if_gt (tgt := 17) dX7_isIn_10 (by decide) (by split <;> first | omega | (split <;> omega)) (fun c10 => ?_) (fun c10 => ?_)
    · have c10 : x > u := by revert c10; split <;> first | omega | (split <;> omega)
      refine aw_iconst dX7_isIn_17 ?_
      exact aw_iret ⟨_, rfl, rfl, rfl, rfl, (by omega)⟩ (Nat.le_refl _) (Nat.le_refl _) dX7_isIn_18
    · have c10 : x ≤ u := by revert c10; split <;> first | omega | (split <;> omega)
      refine aw_iconst dX7_isIn_13 ?_
      refine aw_goto (tgt := 18) dX7_isIn_14 (by decide) ?_
      exact aw_iret ⟨_, rfl, rfl, rfl, rfl, (by omega)⟩ (Nat.le_refl _) (Nat.le_refl _) dX7_isIn_18
theorem s_X7_isBell {mr : aR} (hR : Rok mr) {mi : aM} {b : Int} (h_b : -2147483648 ≤ b ∧ b ≤ 2147483647) (hn : 0 ≤ mi 58 6 ∧ mi 58 6 ≤ 12) : SPg yX7_isBell cX7_isBell 2 (some .boolean) 2 [.ref 58, iI b] mi mr (Pp mi mr (fun r => (r = 1 ∧ 0 ≤ b ∧ b < mi 58 6) ∨ (r = 0 ∧ (b < 0 ∨ mi 58 6 ≤ b)))) := by
  refine SPg.boolp rfl (by decide +kernel) (Nat.le_of_ble_eq_true rfl) (fun r h => by omega) ?_
  show AWm RX7 cX7_isBell 2 2 _ 0 [(0, .ref 58), (1, iI b)] [] mi mr
  refine aw_iload_n (i := 1) (q := 1) dX7_isBell_0 rfl rfl ?_
  refine aw_i2l dX7_isBell_1 (by first | assumption | omega) ?_
  refine aw_lconst (x := 0) dX7_isBell_2 rfl ?_
  refine aw_aload_n (i := 0) (q := 0) dX7_isBell_3 rfl rfl ?_
  refine aw_getIk (x := mi 58 6) 6 flX7_132 SH_58 (by decide) rfl rfl rfl dX7_isBell_4 (fun r4 => ?_)
  refine aw_iconst dX7_isBell_7 ?_
  refine aw_isub dX7_isBell_8 ?_
  refine aw_i2l dX7_isBell_9 (by first | assumption | omega) ?_
  refine aw_cSp (As := [lL b, lL 0, lL ((mi 58 6) - 1)]) (st := []) clX7_135 (s_X7_isIn hR (by omega) (by omega) (by omega)) rfl rfl (Nat.le_of_ble_eq_true rfl) (by decide) (by decide) (Nat.le_refl _) (Nat.le_refl _) dX7_isBell_10 (fun v10 hv10 => ?_)
  exact aw_iret ⟨_, rfl, rfl, rfl, rfl, (by omega)⟩ (Nat.le_refl _) (Nat.le_refl _) dX7_isBell_13
theorem s_X7_isPattern {mr : aR} (hR : Rok mr) {mi : aM} {w : Int} (h_w : -2147483648 ≤ w ∧ w ≤ 2147483647) : SPg yX7_isPattern cX7_isPattern 1 (some .boolean) 2 [iI w] mi mr (Pp mi mr (fun r => (r = 1 ∧ 0 ≤ w ∧ w < 5) ∨ (r = 0 ∧ (w < 0 ∨ 5 ≤ w)))) := by
  refine SPg.boolp rfl (by decide +kernel) (Nat.le_of_ble_eq_true rfl) (fun r h => by omega) ?_
  show AWm RX7 cX7_isPattern 1 2 _ 0 [(0, iI w)] [] mi mr
  refine aw_iload_n (i := 0) (q := 0) dX7_isPattern_0 rfl rfl ?_
  refine aw_i2l dX7_isPattern_1 (by first | assumption | omega) ?_
  refine aw_lconst (x := 0) dX7_isPattern_2 rfl ?_
  refine aw_ldc2 (x := 4) coX7_250 rfl dX7_isPattern_3 ?_
  refine aw_cSp (As := [lL w, lL 0, lL 4]) (st := []) clX7_135 (s_X7_isIn hR (by omega) (by omega) (by omega)) rfl rfl (Nat.le_of_ble_eq_true rfl) (by decide) (by decide) (Nat.le_refl _) (Nat.le_refl _) dX7_isPattern_6 (fun v6 hv6 => ?_)
  exact aw_iret ⟨_, rfl, rfl, rfl, rfl, (by omega)⟩ (Nat.le_refl _) (Nat.le_refl _) dX7_isPattern_9
theorem s_X7_isEntry {mr : aR} (hR : Rok mr) {mi : aM} {i : Int} (h_i : -2147483648 ≤ i ∧ i ≤ 2147483647) (hn : 0 ≤ mi 58 42 ∧ mi 58 42 ≤ 8) : SPg yX7_isEntry cX7_isEntry 2 (some .boolean) 2 [.ref 58, iI i] mi mr (Pp mi mr (fun r => (r = 1 ∧ 0 ≤ i ∧ i < mi 58 42) ∨ (r = 0 ∧ (i < 0 ∨ mi 58 42 ≤ i)))) := by
  refine SPg.boolp rfl (by decide +kernel) (Nat.le_of_ble_eq_true rfl) (fun r h => by omega) ?_
  show AWm RX7 cX7_isEntry 2 2 _ 0 [(0, .ref 58), (1, iI i)] [] mi mr
  refine aw_iload_n (i := 1) (q := 1) dX7_isEntry_0 rfl rfl ?_
  refine aw_i2l dX7_isEntry_1 (by first | assumption | omega) ?_
  refine aw_lconst (x := 0) dX7_isEntry_2 rfl ?_
  refine aw_aload_n (i := 0) (q := 0) dX7_isEntry_3 rfl rfl ?_
  refine aw_getIk (x := mi 58 42) 42 flX7_277 SH_58 (by decide) rfl rfl rfl dX7_isEntry_4 (fun r4 => ?_)
  refine aw_iconst dX7_isEntry_7 ?_
  refine aw_isub dX7_isEntry_8 ?_
  refine aw_i2l dX7_isEntry_9 (by first | assumption | omega) ?_
  refine aw_cSp (As := [lL i, lL 0, lL ((mi 58 42) - 1)]) (st := []) clX7_135 (s_X7_isIn hR (by omega) (by omega) (by omega)) rfl rfl (Nat.le_of_ble_eq_true rfl) (by decide) (by decide) (Nat.le_refl _) (Nat.le_refl _) dX7_isEntry_10 (fun v10 hv10 => ?_)
  exact aw_iret ⟨_, rfl, rfl, rfl, rfl, (by omega)⟩ (Nat.le_refl _) (Nat.le_refl _) dX7_isEntry_13
theorem s_X7_bellCount {mr : aR} (hR : Rok mr) {mi : aM}  : SPg yX7_bellCount cX7_bellCount 1 (some .int) 1 [.ref 58] mi mr (Pi mr (fun r m => m = aup mi 58 0 0 ∧ r = mi 58 6)) := by
  refine SPg.int rfl (by decide +kernel) (Nat.le_of_ble_eq_true rfl) ?_
  show AWm RX7 cX7_bellCount 1 1 _ 0 [(0, .ref 58)] [] mi mr
  refine aw_aload_n (i := 0) (q := 0) dX7_bellCount_0 rfl rfl ?_
  refine aw_iconst dX7_bellCount_1 ?_
  refine aw_putIk 0 flX7_1 SH_58 (by decide) rfl rfl rfl (by decide) dX7_bellCount_2 ?_
  refine aw_aload_n (i := 0) (q := 0) dX7_bellCount_5 rfl rfl ?_
  refine aw_getIk (x := mi 58 6) 6 flX7_132 SH_58 (by decide) rfl rfl (by (rw [aup_k (by decide)]) <;> rfl) dX7_bellCount_6 (fun r6 => ?_)
  exact aw_iret ⟨_, rfl, rfl, rfl, rfl, rfl⟩ (Nat.le_refl _) (Nat.le_refl _) dX7_bellCount_9
theorem s_X7_currentTime {mr : aR} (hR : Rok mr) {mi : aM}  : SPg yX7_currentTime cX7_currentTime 1 (some .int) 1 [.ref 58] mi mr (Pi mr (fun r m => m = aup mi 58 0 0 ∧ r = mi 58 9)) := by
  refine SPg.int rfl (by decide +kernel) (Nat.le_of_ble_eq_true rfl) ?_
  show AWm RX7 cX7_currentTime 1 1 _ 0 [(0, .ref 58)] [] mi mr
  refine aw_aload_n (i := 0) (q := 0) dX7_currentTime_0 rfl rfl ?_
  refine aw_iconst dX7_currentTime_1 ?_
  refine aw_putIk 0 flX7_1 SH_58 (by decide) rfl rfl rfl (by decide) dX7_currentTime_2 ?_
  refine aw_aload_n (i := 0) (q := 0) dX7_currentTime_5 rfl rfl ?_
  refine aw_getIk (x := mi 58 9) 9 flX7_158 SH_58 (by decide) rfl rfl (by (rw [aup_k (by decide)]) <;> rfl) dX7_currentTime_6 (fun r6 => ?_)
  exact aw_iret ⟨_, rfl, rfl, rfl, rfl, rfl⟩ (Nat.le_refl _) (Nat.le_refl _) dX7_currentTime_9
theorem s_X7_scheduledCount {mr : aR} (hR : Rok mr) {mi : aM}  : SPg yX7_scheduledCount cX7_scheduledCount 1 (some .int) 1 [.ref 58] mi mr (Pi mr (fun r m => m = aup mi 58 0 0 ∧ r = mi 58 18)) := by
  refine SPg.int rfl (by decide +kernel) (Nat.le_of_ble_eq_true rfl) ?_
  show AWm RX7 cX7_scheduledCount 1 1 _ 0 [(0, .ref 58)] [] mi mr
  refine aw_aload_n (i := 0) (q := 0) dX7_scheduledCount_0 rfl rfl ?_
  refine aw_iconst dX7_scheduledCount_1 ?_
  refine aw_putIk 0 flX7_1 SH_58 (by decide) rfl rfl rfl (by decide) dX7_scheduledCount_2 ?_
  refine aw_aload_n (i := 0) (q := 0) dX7_scheduledCount_5 rfl rfl ?_
  refine aw_getIk (x := mi 58 18) 18 flX7_171 SH_58 (by decide) rfl rfl (by (rw [aup_k (by decide)]) <;> rfl) dX7_scheduledCount_6 (fun r6 => ?_)
  exact aw_iret ⟨_, rfl, rfl, rfl, rfl, rfl⟩ (Nat.le_refl _) (Nat.le_refl _) dX7_scheduledCount_9
theorem s_X7_patternError {mr : aR} (hR : Rok mr) {mi : aM}  : SPg yX7_patternError cX7_patternError 1 (some .int) 1 [.ref 58] mi mr (Pi mr (fun r m => m = aup mi 58 0 0 ∧ r = mi 58 29)) := by
  refine SPg.int rfl (by decide +kernel) (Nat.le_of_ble_eq_true rfl) ?_
  show AWm RX7 cX7_patternError 1 1 _ 0 [(0, .ref 58)] [] mi mr
  refine aw_aload_n (i := 0) (q := 0) dX7_patternError_0 rfl rfl ?_
  refine aw_iconst dX7_patternError_1 ?_
  refine aw_putIk 0 flX7_1 SH_58 (by decide) rfl rfl rfl (by decide) dX7_patternError_2 ?_
  refine aw_aload_n (i := 0) (q := 0) dX7_patternError_5 rfl rfl ?_
  refine aw_getIk (x := mi 58 29) 29 flX7_255 SH_58 (by decide) rfl rfl (by (rw [aup_k (by decide)]) <;> rfl) dX7_patternError_6 (fun r6 => ?_)
  exact aw_iret ⟨_, rfl, rfl, rfl, rfl, rfl⟩ (Nat.le_refl _) (Nat.le_refl _) dX7_patternError_9
theorem s_X7_patternErrorPosition {mr : aR} (hR : Rok mr) {mi : aM}  : SPg yX7_patternErrorPosition cX7_patternErrorPosition 1 (some .int) 1 [.ref 58] mi mr (Pi mr (fun r m => m = aup mi 58 0 0 ∧ r = mi 58 30)) := by
  refine SPg.int rfl (by decide +kernel) (Nat.le_of_ble_eq_true rfl) ?_
  show AWm RX7 cX7_patternErrorPosition 1 1 _ 0 [(0, .ref 58)] [] mi mr
  refine aw_aload_n (i := 0) (q := 0) dX7_patternErrorPosition_0 rfl rfl ?_
  refine aw_iconst dX7_patternErrorPosition_1 ?_
  refine aw_putIk 0 flX7_1 SH_58 (by decide) rfl rfl rfl (by decide) dX7_patternErrorPosition_2 ?_
  refine aw_aload_n (i := 0) (q := 0) dX7_patternErrorPosition_5 rfl rfl ?_
  refine aw_getIk (x := mi 58 30) 30 flX7_63 SH_58 (by decide) rfl rfl (by (rw [aup_k (by decide)]) <;> rfl) dX7_patternErrorPosition_6 (fun r6 => ?_)
  exact aw_iret ⟨_, rfl, rfl, rfl, rfl, rfl⟩ (Nat.le_refl _) (Nat.le_refl _) dX7_patternErrorPosition_9
theorem s_X7_entryCount {mr : aR} (hR : Rok mr) {mi : aM}  : SPg yX7_entryCount cX7_entryCount 1 (some .int) 1 [.ref 58] mi mr (Pi mr (fun r m => m = aup mi 58 0 0 ∧ r = mi 58 42)) := by
  refine SPg.int rfl (by decide +kernel) (Nat.le_of_ble_eq_true rfl) ?_
  show AWm RX7 cX7_entryCount 1 1 _ 0 [(0, .ref 58)] [] mi mr
  refine aw_aload_n (i := 0) (q := 0) dX7_entryCount_0 rfl rfl ?_
  refine aw_iconst dX7_entryCount_1 ?_
  refine aw_putIk 0 flX7_1 SH_58 (by decide) rfl rfl rfl (by decide) dX7_entryCount_2 ?_
  refine aw_aload_n (i := 0) (q := 0) dX7_entryCount_5 rfl rfl ?_
  refine aw_getIk (x := mi 58 42) 42 flX7_277 SH_58 (by decide) rfl rfl (by (rw [aup_k (by decide)]) <;> rfl) dX7_entryCount_6 (fun r6 => ?_)
  exact aw_iret ⟨_, rfl, rfl, rfl, rfl, rfl⟩ (Nat.le_refl _) (Nat.le_refl _) dX7_entryCount_9
theorem s_X7_failureCount {mr : aR} (hR : Rok mr) {mi : aM}  : SPg yX7_failureCount cX7_failureCount 1 (some .int) 1 [.ref 58] mi mr (Pi mr (fun r m => m = aup mi 58 0 0 ∧ r = mi 58 43)) := by
  refine SPg.int rfl (by decide +kernel) (Nat.le_of_ble_eq_true rfl) ?_
  show AWm RX7 cX7_failureCount 1 1 _ 0 [(0, .ref 58)] [] mi mr
  refine aw_aload_n (i := 0) (q := 0) dX7_failureCount_0 rfl rfl ?_
  refine aw_iconst dX7_failureCount_1 ?_
  refine aw_putIk 0 flX7_1 SH_58 (by decide) rfl rfl rfl (by decide) dX7_failureCount_2 ?_
  refine aw_aload_n (i := 0) (q := 0) dX7_failureCount_5 rfl rfl ?_
  refine aw_getIk (x := mi 58 43) 43 flX7_288 SH_58 (by decide) rfl rfl (by (rw [aup_k (by decide)]) <;> rfl) dX7_failureCount_6 (fun r6 => ?_)
  exact aw_iret ⟨_, rfl, rfl, rfl, rfl, rfl⟩ (Nat.le_refl _) (Nat.le_refl _) dX7_failureCount_9
theorem s_X7_delay {mr : aR} (hR : Rok mr) {mi : aM} {b : Int} (h_b : -2147483648 ≤ b ∧ b ≤ 2147483647) (hn : 0 ≤ mi 58 6 ∧ mi 58 6 ≤ 12) : SPg yX7_delay cX7_delay 2 (some .int) 3 [.ref 58, iI b] mi mr (Pi mr (fun r m => m = aup mi 58 0 0 ∧ r = if 0 ≤ b ∧ b < mi 58 6 then mi 59 b else -2)) := by
  refine SPg.int rfl (by decide +kernel) (Nat.le_of_ble_eq_true rfl) ?_
  show AWm RX7 cX7_delay 2 3 _ 0 [(0, .ref 58), (1, iI b)] [] mi mr
  refine aw_aload_n (i := 0) (q := 0) dX7_delay_0 rfl rfl ?_
  refine aw_iconst dX7_delay_1 ?_
  refine aw_putIk 0 flX7_1 SH_58 (by decide) rfl rfl rfl (by decide) dX7_delay_2 ?_
  refine aw_aload_n (i := 0) (q := 0) dX7_delay_5 rfl rfl ?_
  refine aw_iload_n (i := 1) (q := 1) dX7_delay_6 rfl rfl ?_
  refine aw_cVp (As := [iI b]) (st := []) clX7_149 (s_X7_isBell hR (by omega) (by first | omega | (rw [aup_k (a := 58) (x := 58) (j := 6) (by decide)]; omega))) SH_58 rfl (by decide) rfl rfl (Nat.le_of_ble_eq_true rfl) (by decide) (by decide) (Nat.le_refl _) (Nat.le_refl _) dX7_delay_7 (fun v7 hv7 => ?_)
  try rw [aup_k (a := 58) (x := 58) (j := 6) (by decide)] at hv7
  refine aw_if_eq (tgt := 22) dX7_delay_10 (by decide) (by first | assumption | omega) (fun c10 => ?_) (fun c10 => ?_)
  · refine aw_bipush (x := -2) dX7_delay_22 rfl ?_
    exact aw_iret ⟨_, rfl, rfl, rfl, rfl, (by (repeat' split) <;> omega)⟩ (Nat.le_refl _) (Nat.le_refl _) dX7_delay_24
  · refine aw_aload_n (i := 0) (q := 0) dX7_delay_13 rfl rfl ?_
    refine aw_getR (r := 59) flX7_13 SH_58 (by decide) rfl (rk_58_1 hR) dX7_delay_14 ?_
    refine aw_iload_n (i := 1) (q := 1) dX7_delay_17 rfl rfl ?_
    refine aw_ialdv (x := mi 59 b) SH_59 (by decide) ⟨by omega, by omega⟩ (by (rw [aup_a (by decide)]) <;> rfl) dX7_delay_18 (fun r18 => ?_)
    refine aw_goto (tgt := 24) dX7_delay_19 (by decide) ?_
    exact aw_iret ⟨_, rfl, rfl, rfl, rfl, (by (repeat' split) <;> omega)⟩ (Nat.le_refl _) (Nat.le_refl _) dX7_delay_24
theorem s_X7_amplitude {mr : aR} (hR : Rok mr) {mi : aM} {b : Int} (h_b : -2147483648 ≤ b ∧ b ≤ 2147483647) (hn : 0 ≤ mi 58 6 ∧ mi 58 6 ≤ 12) : SPg yX7_amplitude cX7_amplitude 2 (some .int) 3 [.ref 58, iI b] mi mr (Pi mr (fun r m => m = aup mi 58 0 0 ∧ r = if 0 ≤ b ∧ b < mi 58 6 then (if mi 86 b = 0 then -1 else mi 89 b) else -2)) := by
  refine SPg.int rfl (by decide +kernel) (Nat.le_of_ble_eq_true rfl) ?_
  show AWm RX7 cX7_amplitude 2 3 _ 0 [(0, .ref 58), (1, iI b)] [] mi mr
  refine aw_aload_n (i := 0) (q := 0) dX7_amplitude_0 rfl rfl ?_
  refine aw_iconst dX7_amplitude_1 ?_
  refine aw_putIk 0 flX7_1 SH_58 (by decide) rfl rfl rfl (by decide) dX7_amplitude_2 ?_
  refine aw_aload_n (i := 0) (q := 0) dX7_amplitude_5 rfl rfl ?_
  refine aw_iload_n (i := 1) (q := 1) dX7_amplitude_6 rfl rfl ?_
  refine aw_cVp (As := [iI b]) (st := []) clX7_149 (s_X7_isBell hR (by omega) (by first | omega | (rw [aup_k (a := 58) (x := 58) (j := 6) (by decide)]; omega))) SH_58 rfl (by decide) rfl rfl (Nat.le_of_ble_eq_true rfl) (by decide) (by decide) (Nat.le_refl _) (Nat.le_refl _) dX7_amplitude_7 (fun v7 hv7 => ?_)
  try rw [aup_k (a := 58) (x := 58) (j := 6) (by decide)] at hv7
  refine aw_if_ne (tgt := 18) dX7_amplitude_10 (by decide) (by first | assumption | omega) (fun c10 => ?_) (fun c10 => ?_)
  · refine aw_aload_n (i := 0) (q := 0) dX7_amplitude_18 rfl rfl ?_
    refine aw_getR (r := 86) flX7_99 SH_58 (by decide) rfl (rk_58_44 hR) dX7_amplitude_19 ?_
    refine aw_iload_n (i := 1) (q := 1) dX7_amplitude_22 rfl rfl ?_
    refine aw_zaldv (x := mi 86 b) SH_86 (by decide) ⟨by omega, by omega⟩ (by (rw [aup_a (by decide)]) <;> rfl) dX7_amplitude_23 (fun r23 => ?_)
    refine aw_if_eq (tgt := 36) dX7_amplitude_24 (by decide) (by first | assumption | omega) (fun c24 => ?_) (fun c24 => ?_)
    · refine aw_iconst dX7_amplitude_36 ?_
      exact aw_iret ⟨_, rfl, rfl, rfl, rfl, (by (repeat' split) <;> omega)⟩ (Nat.le_refl _) (Nat.le_refl _) dX7_amplitude_37
    · refine aw_aload_n (i := 0) (q := 0) dX7_amplitude_27 rfl rfl ?_
      refine aw_getR (r := 89) flX7_108 SH_58 (by decide) rfl (rk_58_47 hR) dX7_amplitude_28 ?_
      refine aw_iload_n (i := 1) (q := 1) dX7_amplitude_31 rfl rfl ?_
      refine aw_ialdv (x := mi 89 b) SH_89 (by decide) ⟨by omega, by omega⟩ (by (rw [aup_a (by decide)]) <;> rfl) dX7_amplitude_32 (fun r32 => ?_)
      refine aw_goto (tgt := 37) dX7_amplitude_33 (by decide) ?_
      exact aw_iret ⟨_, rfl, rfl, rfl, rfl, (by (repeat' split) <;> omega)⟩ (Nat.le_refl _) (Nat.le_refl _) dX7_amplitude_37
  · refine aw_bipush (x := -2) dX7_amplitude_13 rfl ?_
    refine aw_goto (tgt := 37) dX7_amplitude_15 (by decide) ?_
    exact aw_iret ⟨_, rfl, rfl, rfl, rfl, (by (repeat' split) <;> omega)⟩ (Nat.le_refl _) (Nat.le_refl _) dX7_amplitude_37
theorem s_X7_nextTurn {mr : aR} (hR : Rok mr) {mi : aM} {b : Int} (h_b : -2147483648 ≤ b ∧ b ≤ 2147483647) (hn : 0 ≤ mi 58 6 ∧ mi 58 6 ≤ 12) : SPg yX7_nextTurn cX7_nextTurn 2 (some .int) 3 [.ref 58, iI b] mi mr (Pi mr (fun r m => m = aup mi 58 0 0 ∧ r = if 0 ≤ b ∧ b < mi 58 6 then (if mi 86 b = 0 then -1 else mi 92 b) else -2)) := by
  refine SPg.int rfl (by decide +kernel) (Nat.le_of_ble_eq_true rfl) ?_
  show AWm RX7 cX7_nextTurn 2 3 _ 0 [(0, .ref 58), (1, iI b)] [] mi mr
  refine aw_aload_n (i := 0) (q := 0) dX7_nextTurn_0 rfl rfl ?_
  refine aw_iconst dX7_nextTurn_1 ?_
  refine aw_putIk 0 flX7_1 SH_58 (by decide) rfl rfl rfl (by decide) dX7_nextTurn_2 ?_
  refine aw_aload_n (i := 0) (q := 0) dX7_nextTurn_5 rfl rfl ?_
  refine aw_iload_n (i := 1) (q := 1) dX7_nextTurn_6 rfl rfl ?_
  refine aw_cVp (As := [iI b]) (st := []) clX7_149 (s_X7_isBell hR (by omega) (by first | omega | (rw [aup_k (a := 58) (x := 58) (j := 6) (by decide)]; omega))) SH_58 rfl (by decide) rfl rfl (Nat.le_of_ble_eq_true rfl) (by decide) (by decide) (Nat.le_refl _) (Nat.le_refl _) dX7_nextTurn_7 (fun v7 hv7 => ?_)
  try rw [aup_k (a := 58) (x := 58) (j := 6) (by decide)] at hv7
  refine aw_if_ne (tgt := 18) dX7_nextTurn_10 (by decide) (by first | assumption | omega) (fun c10 => ?_) (fun c10 => ?_)
  · refine aw_aload_n (i := 0) (q := 0) dX7_nextTurn_18 rfl rfl ?_
    refine aw_getR (r := 86) flX7_99 SH_58 (by decide) rfl (rk_58_44 hR) dX7_nextTurn_19 ?_
    refine aw_iload_n (i := 1) (q := 1) dX7_nextTurn_22 rfl rfl ?_
    refine aw_zaldv (x := mi 86 b) SH_86 (by decide) ⟨by omega, by omega⟩ (by (rw [aup_a (by decide)]) <;> rfl) dX7_nextTurn_23 (fun r23 => ?_)
    refine aw_if_eq (tgt := 36) dX7_nextTurn_24 (by decide) (by first | assumption | omega) (fun c24 => ?_) (fun c24 => ?_)
    · refine aw_iconst dX7_nextTurn_36 ?_
      exact aw_iret ⟨_, rfl, rfl, rfl, rfl, (by (repeat' split) <;> omega)⟩ (Nat.le_refl _) (Nat.le_refl _) dX7_nextTurn_37
    · refine aw_aload_n (i := 0) (q := 0) dX7_nextTurn_27 rfl rfl ?_
      refine aw_getR (r := 92) flX7_117 SH_58 (by decide) rfl (rk_58_50 hR) dX7_nextTurn_28 ?_
      refine aw_iload_n (i := 1) (q := 1) dX7_nextTurn_31 rfl rfl ?_
      refine aw_ialdv (x := mi 92 b) SH_92 (by decide) ⟨by omega, by omega⟩ (by (rw [aup_a (by decide)]) <;> rfl) dX7_nextTurn_32 (fun r32 => ?_)
      refine aw_goto (tgt := 37) dX7_nextTurn_33 (by decide) ?_
      exact aw_iret ⟨_, rfl, rfl, rfl, rfl, (by (repeat' split) <;> omega)⟩ (Nat.le_refl _) (Nat.le_refl _) dX7_nextTurn_37
  · refine aw_bipush (x := -2) dX7_nextTurn_13 rfl ?_
    refine aw_goto (tgt := 37) dX7_nextTurn_15 (by decide) ?_
    exact aw_iret ⟨_, rfl, rfl, rfl, rfl, (by (repeat' split) <;> omega)⟩ (Nat.le_refl _) (Nat.le_refl _) dX7_nextTurn_37
theorem s_X7_addBell {mr : aR} (hR : Rok mr) {mi : aM} {d e w h : Int} (h_d : -2147483648 ≤ d ∧ d ≤ 2147483647) (h_e : -2147483648 ≤ e ∧ e ≤ 2147483647) (h_w : -2147483648 ≤ w ∧ w ≤ 2147483647) (h_h : -2147483648 ≤ h ∧ h ≤ 2147483647) (hn : 0 ≤ mi 58 6 ∧ mi 58 6 ≤ 12) : SPg yX7_addBell cX7_addBell 5 (some .int) 3 [.ref 58, iI d, iI e, iI w, iI h] mi mr (Pi mr (fun r m => r = (if (1 ≤ d ∧ d ≤ 50) ∧ (0 ≤ e ∧ e ≤ 100) ∧ (1 ≤ w ∧ w ≤ 99) ∧ (10 ≤ h ∧ h ≤ 60) then (if 12 ≤ mi 58 6 then -4 else mi 58 6) else -3) ∧ (r < 0 → m = aup mi 58 0 0) ∧ (0 ≤ r → m = aup (aup (aup (aup (aup (aup mi 58 0 0) 59 (mi 58 6) d) 60 (mi 58 6) e) 61 (mi 58 6) w) 62 (mi 58 6) h) 58 6 (mi 58 6 + 1)))) := by
  refine SPg.int rfl (by decide +kernel) (Nat.le_of_ble_eq_true rfl) ?_
  show AWm RX7 cX7_addBell 5 3 _ 0 [(0, .ref 58), (1, iI d), (2, iI e), (3, iI w), (4, iI h)] [] mi mr
  refine aw_aload_n (i := 0) (q := 0) dX7_addBell_0 rfl rfl ?_
  refine aw_iconst dX7_addBell_1 ?_
  refine aw_putIk 0 flX7_1 SH_58 (by decide) rfl rfl rfl (by decide) dX7_addBell_2 ?_
  refine aw_iload_n (i := 1) (q := 1) dX7_addBell_5 rfl rfl ?_
  refine aw_i2l dX7_addBell_6 (by first | assumption | omega) ?_
  refine aw_lconst (x := 1) dX7_addBell_7 rfl ?_
  refine aw_ldc2 (x := 50) coX7_139 rfl dX7_addBell_8 ?_
  refine aw_cSp (As := [lL d, lL 1, lL 50]) (st := []) clX7_135 (s_X7_isIn hR (by omega) (by omega) (by omega)) rfl rfl (Nat.le_of_ble_eq_true rfl) (by decide) (by decide) (Nat.le_refl _) (Nat.le_refl _) dX7_addBell_11 (fun v11 hv11 => ?_)
  refine aw_if_eq (tgt := 56) dX7_addBell_14 (by decide) (by first | assumption | omega) (fun c14 => ?_) (fun c14 => ?_)
  · refine aw_bipush (x := -3) dX7_addBell_56 rfl ?_
    exact aw_iret ⟨_, rfl, rfl, rfl, (by (repeat' split) <;> omega), (fun _ => rfl), (fun h => by omega)⟩ (Nat.le_refl _) (Nat.le_refl _) dX7_addBell_58
  · refine aw_iload_n (i := 2) (q := 2) dX7_addBell_17 rfl rfl ?_
    refine aw_i2l dX7_addBell_18 (by first | assumption | omega) ?_
    refine aw_lconst (x := 0) dX7_addBell_19 rfl ?_
    refine aw_ldc2 (x := 100) coX7_141 rfl dX7_addBell_20 ?_
    refine aw_cSp (As := [lL e, lL 0, lL 100]) (st := []) clX7_135 (s_X7_isIn hR (by omega) (by omega) (by omega)) rfl rfl (Nat.le_of_ble_eq_true rfl) (by decide) (by decide) (Nat.le_refl _) (Nat.le_refl _) dX7_addBell_23 (fun v23 hv23 => ?_)
    refine aw_if_eq (tgt := 56) dX7_addBell_26 (by decide) (by first | assumption | omega) (fun c26 => ?_) (fun c26 => ?_)
    · refine aw_bipush (x := -3) dX7_addBell_56 rfl ?_
      exact aw_iret ⟨_, rfl, rfl, rfl, (by (repeat' split) <;> omega), (fun _ => rfl), (fun h => by omega)⟩ (Nat.le_refl _) (Nat.le_refl _) dX7_addBell_58
    · refine aw_iload_n (i := 3) (q := 3) dX7_addBell_29 rfl rfl ?_
      refine aw_i2l dX7_addBell_30 (by first | assumption | omega) ?_
      refine aw_lconst (x := 1) dX7_addBell_31 rfl ?_
      refine aw_ldc2 (x := 99) coX7_143 rfl dX7_addBell_32 ?_
      refine aw_cSp (As := [lL w, lL 1, lL 99]) (st := []) clX7_135 (s_X7_isIn hR (by omega) (by omega) (by omega)) rfl rfl (Nat.le_of_ble_eq_true rfl) (by decide) (by decide) (Nat.le_refl _) (Nat.le_refl _) dX7_addBell_35 (fun v35 hv35 => ?_)
      refine aw_if_eq (tgt := 56) dX7_addBell_38 (by decide) (by first | assumption | omega) (fun c38 => ?_) (fun c38 => ?_)
      · refine aw_bipush (x := -3) dX7_addBell_56 rfl ?_
        exact aw_iret ⟨_, rfl, rfl, rfl, (by (repeat' split) <;> omega), (fun _ => rfl), (fun h => by omega)⟩ (Nat.le_refl _) (Nat.le_refl _) dX7_addBell_58
      · refine aw_iload (i := 4) (q := 4) dX7_addBell_41 rfl ?_
        refine aw_i2l dX7_addBell_43 (by first | assumption | omega) ?_
        refine aw_ldc2 (x := 10) coX7_145 rfl dX7_addBell_44 ?_
        refine aw_ldc2 (x := 60) coX7_147 rfl dX7_addBell_47 ?_
        refine aw_cSp (As := [lL h, lL 10, lL 60]) (st := []) clX7_135 (s_X7_isIn hR (by omega) (by omega) (by omega)) rfl rfl (Nat.le_of_ble_eq_true rfl) (by decide) (by decide) (Nat.le_refl _) (Nat.le_refl _) dX7_addBell_50 (fun v50 hv50 => ?_)
        refine aw_if_ne (tgt := 59) dX7_addBell_53 (by decide) (by first | assumption | omega) (fun c53 => ?_) (fun c53 => ?_)
        · refine aw_aload_n (i := 0) (q := 0) dX7_addBell_59 rfl rfl ?_
          refine aw_getIk (x := mi 58 6) 6 flX7_132 SH_58 (by decide) rfl rfl (by (rw [aup_k (by decide)]) <;> rfl) dX7_addBell_60 (fun r60 => ?_)
          refine aw_bipush (x := 12) dX7_addBell_63 rfl ?_
          refine aw_icmp_ne (tgt := 71) dX7_addBell_65 (by decide) (by first | assumption | omega) (by decide) (fun c65 => ?_) (fun c65 => ?_)
          · refine aw_aload_n (i := 0) (q := 0) dX7_addBell_71 rfl rfl ?_
            refine aw_getR (r := 59) flX7_13 SH_58 (by decide) rfl (rk_58_1 hR) dX7_addBell_72 ?_
            refine aw_aload_n (i := 0) (q := 0) dX7_addBell_75 rfl rfl ?_
            refine aw_getIk (x := mi 58 6) 6 flX7_132 SH_58 (by decide) rfl rfl (by (rw [aup_k (by decide)]) <;> rfl) dX7_addBell_76 (fun r76 => ?_)
            refine aw_iload_n (i := 1) (q := 1) dX7_addBell_79 rfl rfl ?_
            refine aw_iast SH_59 (by decide) ⟨by omega, by omega⟩ (by first | assumption | omega) dX7_addBell_80 ?_
            refine aw_aload_n (i := 0) (q := 0) dX7_addBell_81 rfl rfl ?_
            refine aw_getR (r := 60) flX7_17 SH_58 (by decide) rfl (rk_58_2 hR) dX7_addBell_82 ?_
            refine aw_aload_n (i := 0) (q := 0) dX7_addBell_85 rfl rfl ?_
            refine aw_getIk (x := mi 58 6) 6 flX7_132 SH_58 (by decide) rfl rfl (by (rw [aup_a (by decide), aup_k (by decide)]) <;> rfl) dX7_addBell_86 (fun r86 => ?_)
            refine aw_iload_n (i := 2) (q := 2) dX7_addBell_89 rfl rfl ?_
            refine aw_iast SH_60 (by decide) ⟨by omega, by omega⟩ (by first | assumption | omega) dX7_addBell_90 ?_
            refine aw_aload_n (i := 0) (q := 0) dX7_addBell_91 rfl rfl ?_
            refine aw_getR (r := 61) flX7_20 SH_58 (by decide) rfl (rk_58_3 hR) dX7_addBell_92 ?_
            refine aw_aload_n (i := 0) (q := 0) dX7_addBell_95 rfl rfl ?_
            refine aw_getIk (x := mi 58 6) 6 flX7_132 SH_58 (by decide) rfl rfl (by (rw [aup_a (by decide), aup_a (by decide), aup_k (by decide)]) <;> rfl) dX7_addBell_96 (fun r96 => ?_)
            refine aw_iload_n (i := 3) (q := 3) dX7_addBell_99 rfl rfl ?_
            refine aw_iast SH_61 (by decide) ⟨by omega, by omega⟩ (by first | assumption | omega) dX7_addBell_100 ?_
            refine aw_aload_n (i := 0) (q := 0) dX7_addBell_101 rfl rfl ?_
            refine aw_getR (r := 62) flX7_23 SH_58 (by decide) rfl (rk_58_4 hR) dX7_addBell_102 ?_
            refine aw_aload_n (i := 0) (q := 0) dX7_addBell_105 rfl rfl ?_
            refine aw_getIk (x := mi 58 6) 6 flX7_132 SH_58 (by decide) rfl rfl (by (rw [aup_a (by decide), aup_a (by decide), aup_a (by decide), aup_k (by decide)]) <;> rfl) dX7_addBell_106 (fun r106 => ?_)
            refine aw_iload (i := 4) (q := 4) dX7_addBell_109 rfl ?_
            refine aw_iast SH_62 (by decide) ⟨by omega, by omega⟩ (by first | assumption | omega) dX7_addBell_111 ?_
            refine aw_aload_n (i := 0) (q := 0) dX7_addBell_112 rfl rfl ?_
            refine aw_dup dX7_addBell_113 rfl ?_
            refine aw_getIk (x := mi 58 6) 6 flX7_132 SH_58 (by decide) rfl rfl (by (rw [aup_a (by decide), aup_a (by decide), aup_a (by decide), aup_a (by decide), aup_k (by decide)]) <;> rfl) dX7_addBell_114 (fun r114 => ?_)
            refine aw_iconst dX7_addBell_117 ?_
            refine aw_iadd dX7_addBell_118 ?_
            refine aw_putIk 6 flX7_132 SH_58 (by decide) rfl rfl rfl (by first | assumption | omega) dX7_addBell_119 ?_
            refine aw_aload_n (i := 0) (q := 0) dX7_addBell_122 rfl rfl ?_
            refine aw_getIk (x := (mi 58 6) + 1) 6 flX7_132 SH_58 (by decide) rfl rfl (by (rw [aup_eq]) <;> rfl) dX7_addBell_123 (fun r123 => ?_)
            refine aw_iconst dX7_addBell_126 ?_
            refine aw_isub dX7_addBell_127 ?_
            exact aw_iret ⟨_, rfl, rfl, rfl, (by (repeat' split) <;> omega), (fun h => by omega), (fun _ => rfl)⟩ (Nat.le_refl _) (Nat.le_refl _) dX7_addBell_128
          · refine aw_bipush (x := -4) dX7_addBell_68 rfl ?_
            exact aw_iret ⟨_, rfl, rfl, rfl, (by (repeat' split) <;> omega), (fun _ => rfl), (fun h => by omega)⟩ (Nat.le_refl _) (Nat.le_refl _) dX7_addBell_70
        · refine aw_bipush (x := -3) dX7_addBell_56 rfl ?_
          exact aw_iret ⟨_, rfl, rfl, rfl, (by (repeat' split) <;> omega), (fun _ => rfl), (fun h => by omega)⟩ (Nat.le_refl _) (Nat.le_refl _) dX7_addBell_58
theorem s_X7_calibrate {mr : aR} (hR : Rok mr) {mi : aM} {b x : Int} (h_b : -2147483648 ≤ b ∧ b ≤ 2147483647) (h_x : -2147483648 ≤ x ∧ x ≤ 2147483647) (hn : 0 ≤ mi 58 6 ∧ mi 58 6 ≤ 12) (hd : ∀ i : Int, 0 ≤ i → i < mi 58 6 → 1 ≤ mi 59 i ∧ mi 59 i ≤ 50) : SPg yX7_calibrate cX7_calibrate 3 (some .int) 3 [.ref 58, iI b, iI x] mi mr (Pi mr (fun r m => r = (if 0 ≤ b ∧ b < mi 58 6 then (if 1 ≤ x ∧ x ≤ 50 then ((3 * mi 59 b + x + 2).tdiv 4) else -3) else -2) ∧ (r < 0 → m = aup mi 58 0 0) ∧ (0 ≤ r → m = aup (aup mi 58 0 0) 59 b ((3 * mi 59 b + x + 2).tdiv 4)))) := by
  refine SPg.int rfl (by decide +kernel) (Nat.le_of_ble_eq_true rfl) ?_
  show AWm RX7 cX7_calibrate 3 3 _ 0 [(0, .ref 58), (1, iI b), (2, iI x)] [] mi mr
  refine aw_aload_n (i := 0) (q := 0) dX7_calibrate_0 rfl rfl ?_
  refine aw_iconst dX7_calibrate_1 ?_
  refine aw_putIk 0 flX7_1 SH_58 (by decide) rfl rfl rfl (by decide) dX7_calibrate_2 ?_
  refine aw_aload_n (i := 0) (q := 0) dX7_calibrate_5 rfl rfl ?_
  refine aw_iload_n (i := 1) (q := 1) dX7_calibrate_6 rfl rfl ?_
  refine aw_cVp (As := [iI b]) (st := []) clX7_149 (s_X7_isBell hR (by omega) (by first | omega | (rw [aup_k (a := 58) (x := 58) (j := 6) (by decide)]; omega))) SH_58 rfl (by decide) rfl rfl (Nat.le_of_ble_eq_true rfl) (by decide) (by decide) (Nat.le_refl _) (Nat.le_refl _) dX7_calibrate_7 (fun v7 hv7 => ?_)
  try rw [aup_k (a := 58) (x := 58) (j := 6) (by decide)] at hv7
  refine aw_if_ne (tgt := 16) dX7_calibrate_10 (by decide) (by first | assumption | omega) (fun c10 => ?_) (fun c10 => ?_)
  · refine aw_iload_n (i := 2) (q := 2) dX7_calibrate_16 rfl rfl ?_
    refine aw_i2l dX7_calibrate_17 (by first | assumption | omega) ?_
    refine aw_lconst (x := 1) dX7_calibrate_18 rfl ?_
    refine aw_ldc2 (x := 50) coX7_139 rfl dX7_calibrate_19 ?_
    refine aw_cSp (As := [lL x, lL 1, lL 50]) (st := []) clX7_135 (s_X7_isIn hR (by omega) (by omega) (by omega)) rfl rfl (Nat.le_of_ble_eq_true rfl) (by decide) (by decide) (Nat.le_refl _) (Nat.le_refl _) dX7_calibrate_22 (fun v22 hv22 => ?_)
    refine aw_if_ne (tgt := 31) dX7_calibrate_25 (by decide) (by first | assumption | omega) (fun c25 => ?_) (fun c25 => ?_)
    · have hk0 := hd b (by omega) (by omega)
      have hq9 : (3 * mi 59 b + x + 2).tdiv 4 = (3 * mi 59 b + x + 2) / 4 := Int.tdiv_eq_ediv_of_nonneg (by omega)
      refine aw_aload_n (i := 0) (q := 0) dX7_calibrate_31 rfl rfl ?_
      refine aw_getR (r := 59) flX7_13 SH_58 (by decide) rfl (rk_58_1 hR) dX7_calibrate_32 ?_
      refine aw_iload_n (i := 1) (q := 1) dX7_calibrate_35 rfl rfl ?_
      refine aw_iconst dX7_calibrate_36 ?_
      refine aw_aload_n (i := 0) (q := 0) dX7_calibrate_37 rfl rfl ?_
      refine aw_getR (r := 59) flX7_13 SH_58 (by decide) rfl (rk_58_1 hR) dX7_calibrate_38 ?_
      refine aw_iload_n (i := 1) (q := 1) dX7_calibrate_41 rfl rfl ?_
      refine aw_ialdv (x := mi 59 b) SH_59 (by decide) ⟨by omega, by omega⟩ (by (rw [aup_a (by decide)]) <;> rfl) dX7_calibrate_42 (fun r42 => ?_)
      refine aw_imul dX7_calibrate_43 ?_
      refine aw_iload_n (i := 2) (q := 2) dX7_calibrate_44 rfl rfl ?_
      refine aw_iadd dX7_calibrate_45 ?_
      refine aw_iconst dX7_calibrate_46 ?_
      refine aw_iadd dX7_calibrate_47 ?_
      refine aw_iconst dX7_calibrate_48 ?_
      refine aw_idiv dX7_calibrate_49 (by first | assumption | omega) (by decide) (by omega) (by omega) ?_
      refine aw_iast SH_59 (by decide) ⟨by omega, by omega⟩ (by first | assumption | omega) dX7_calibrate_50 ?_
      refine aw_aload_n (i := 0) (q := 0) dX7_calibrate_51 rfl rfl ?_
      refine aw_getR (r := 59) flX7_13 SH_58 (by decide) rfl (rk_58_1 hR) dX7_calibrate_52 ?_
      refine aw_iload_n (i := 1) (q := 1) dX7_calibrate_55 rfl rfl ?_
      refine aw_ialdv (x := (((3 * (mi 59 b)) + x) + 2).tdiv 4) SH_59 (by decide) ⟨by omega, by omega⟩ (by (rw [aup_eq]) <;> rfl) dX7_calibrate_56 (fun r56 => ?_)
      exact aw_iret ⟨_, rfl, rfl, rfl, (by (repeat' split) <;> omega), (fun h => by omega), (fun _ => rfl)⟩ (Nat.le_refl _) (Nat.le_refl _) dX7_calibrate_57
    · refine aw_bipush (x := -3) dX7_calibrate_28 rfl ?_
      exact aw_iret ⟨_, rfl, rfl, rfl, (by (repeat' split) <;> omega), (fun _ => rfl), (fun h => by omega)⟩ (Nat.le_refl _) (Nat.le_refl _) dX7_calibrate_30
  · refine aw_bipush (x := -2) dX7_calibrate_13 rfl ?_
    exact aw_iret ⟨_, rfl, rfl, rfl, (by (repeat' split) <;> omega), (fun _ => rfl), (fun h => by omega)⟩ (Nat.le_refl _) (Nat.le_refl _) dX7_calibrate_15
theorem s_X7_setPowerLimit {mr : aR} (hR : Rok mr) {mi : aM} {x : Int} (h_x : -2147483648 ≤ x ∧ x ≤ 2147483647) (hp : 1 ≤ mi 58 7 ∧ mi 58 7 ≤ 12) : SPg yX7_setPowerLimit cX7_setPowerLimit 3 (some .int) 2 [.ref 58, iI x] mi mr (Pi mr (fun r m => r = (if 1 ≤ x ∧ x ≤ 12 then mi 58 7 else -3) ∧ (r < 0 → m = aup mi 58 0 0) ∧ (0 ≤ r → m = aup (aup mi 58 0 0) 58 7 x))) := by
  refine SPg.int rfl (by decide +kernel) (Nat.le_of_ble_eq_true rfl) ?_
  show AWm RX7 cX7_setPowerLimit 3 2 _ 0 [(0, .ref 58), (1, iI x)] [] mi mr
  refine aw_aload_n (i := 0) (q := 0) dX7_setPowerLimit_0 rfl rfl ?_
  refine aw_iconst dX7_setPowerLimit_1 ?_
  refine aw_putIk 0 flX7_1 SH_58 (by decide) rfl rfl rfl (by decide) dX7_setPowerLimit_2 ?_
  refine aw_iload_n (i := 1) (q := 1) dX7_setPowerLimit_5 rfl rfl ?_
  refine aw_i2l dX7_setPowerLimit_6 (by first | assumption | omega) ?_
  refine aw_lconst (x := 1) dX7_setPowerLimit_7 rfl ?_
  refine aw_ldc2 (x := 12) coX7_153 rfl dX7_setPowerLimit_8 ?_
  refine aw_cSp (As := [lL x, lL 1, lL 12]) (st := []) clX7_135 (s_X7_isIn hR (by omega) (by omega) (by omega)) rfl rfl (Nat.le_of_ble_eq_true rfl) (by decide) (by decide) (Nat.le_refl _) (Nat.le_refl _) dX7_setPowerLimit_11 (fun v11 hv11 => ?_)
  refine aw_if_ne (tgt := 20) dX7_setPowerLimit_14 (by decide) (by first | assumption | omega) (fun c14 => ?_) (fun c14 => ?_)
  · refine aw_aload_n (i := 0) (q := 0) dX7_setPowerLimit_20 rfl rfl ?_
    refine aw_getIk (x := mi 58 7) 7 flX7_126 SH_58 (by decide) rfl rfl (by (rw [aup_k (by decide)]) <;> rfl) dX7_setPowerLimit_21 (fun r21 => ?_)
    refine aw_istore_n (i := 2) (lv' := [(0, .ref 58), (1, iI x), (2, iI (mi 58 7))]) [1, 2, 0] dX7_setPowerLimit_24 rfl (by decide) rfl ?_
    refine aw_aload_n (i := 0) (q := 0) dX7_setPowerLimit_25 rfl rfl ?_
    refine aw_iload_n (i := 1) (q := 1) dX7_setPowerLimit_26 rfl rfl ?_
    refine aw_putIk 7 flX7_126 SH_58 (by decide) rfl rfl rfl (by first | assumption | omega) dX7_setPowerLimit_27 ?_
    refine aw_iload_n (i := 2) (q := 2) dX7_setPowerLimit_30 rfl rfl ?_
    exact aw_iret ⟨_, rfl, rfl, rfl, (by (repeat' split) <;> omega), (fun h => by omega), (fun _ => rfl)⟩ (Nat.le_refl _) (Nat.le_refl _) dX7_setPowerLimit_31
  · refine aw_bipush (x := -3) dX7_setPowerLimit_17 rfl ?_
    exact aw_iret ⟨_, rfl, rfl, rfl, (by (repeat' split) <;> omega), (fun _ => rfl), (fun h => by omega)⟩ (Nat.le_refl _) (Nat.le_refl _) dX7_setPowerLimit_19
theorem s_X7_setShakeLimit {mr : aR} (hR : Rok mr) {mi : aM} {x : Int} (h_x : -2147483648 ≤ x ∧ x ≤ 2147483647) (hp : 0 ≤ mi 58 8 ∧ mi 58 8 ≤ 100000) : SPg yX7_setShakeLimit cX7_setShakeLimit 3 (some .int) 2 [.ref 58, iI x] mi mr (Pi mr (fun r m => r = (if 0 ≤ x ∧ x ≤ 100000 then mi 58 8 else -3) ∧ (r < 0 → m = aup mi 58 0 0) ∧ (0 ≤ r → m = aup (aup mi 58 0 0) 58 8 x))) := by
  refine SPg.int rfl (by decide +kernel) (Nat.le_of_ble_eq_true rfl) ?_
  show AWm RX7 cX7_setShakeLimit 3 2 _ 0 [(0, .ref 58), (1, iI x)] [] mi mr
  refine aw_aload_n (i := 0) (q := 0) dX7_setShakeLimit_0 rfl rfl ?_
  refine aw_iconst dX7_setShakeLimit_1 ?_
  refine aw_putIk 0 flX7_1 SH_58 (by decide) rfl rfl rfl (by decide) dX7_setShakeLimit_2 ?_
  refine aw_iload_n (i := 1) (q := 1) dX7_setShakeLimit_5 rfl rfl ?_
  refine aw_i2l dX7_setShakeLimit_6 (by first | assumption | omega) ?_
  refine aw_lconst (x := 0) dX7_setShakeLimit_7 rfl ?_
  refine aw_ldc2 (x := 100000) coX7_169 rfl dX7_setShakeLimit_8 ?_
  refine aw_cSp (As := [lL x, lL 0, lL 100000]) (st := []) clX7_135 (s_X7_isIn hR (by omega) (by omega) (by omega)) rfl rfl (Nat.le_of_ble_eq_true rfl) (by decide) (by decide) (Nat.le_refl _) (Nat.le_refl _) dX7_setShakeLimit_11 (fun v11 hv11 => ?_)
  refine aw_if_ne (tgt := 20) dX7_setShakeLimit_14 (by decide) (by first | assumption | omega) (fun c14 => ?_) (fun c14 => ?_)
  · refine aw_aload_n (i := 0) (q := 0) dX7_setShakeLimit_20 rfl rfl ?_
    refine aw_getIk (x := mi 58 8) 8 flX7_129 SH_58 (by decide) rfl rfl (by (rw [aup_k (by decide)]) <;> rfl) dX7_setShakeLimit_21 (fun r21 => ?_)
    refine aw_istore_n (i := 2) (lv' := [(0, .ref 58), (1, iI x), (2, iI (mi 58 8))]) [1, 2, 0] dX7_setShakeLimit_24 rfl (by decide) rfl ?_
    refine aw_aload_n (i := 0) (q := 0) dX7_setShakeLimit_25 rfl rfl ?_
    refine aw_iload_n (i := 1) (q := 1) dX7_setShakeLimit_26 rfl rfl ?_
    refine aw_putIk 8 flX7_129 SH_58 (by decide) rfl rfl rfl (by first | assumption | omega) dX7_setShakeLimit_27 ?_
    refine aw_iload_n (i := 2) (q := 2) dX7_setShakeLimit_30 rfl rfl ?_
    exact aw_iret ⟨_, rfl, rfl, rfl, (by (repeat' split) <;> omega), (fun h => by omega), (fun _ => rfl)⟩ (Nat.le_refl _) (Nat.le_refl _) dX7_setShakeLimit_31
  · refine aw_bipush (x := -3) dX7_setShakeLimit_17 rfl ?_
    exact aw_iret ⟨_, rfl, rfl, rfl, (by (repeat' split) <;> omega), (fun _ => rfl), (fun h => by omega)⟩ (Nat.le_refl _) (Nat.le_refl _) dX7_setShakeLimit_19
theorem s_X7_holdClapper {mr : aR} (hR : Rok mr) {mi : aM} {b x : Int} (h_b : -2147483648 ≤ b ∧ b ≤ 2147483647) (hx : x = 0 ∨ x = 1) (hn : 0 ≤ mi 58 6 ∧ mi 58 6 ≤ 12) (hz : ∀ i : Int, 0 ≤ i → i < mi 58 6 → (mi 86 i = 0 ∨ mi 86 i = 1) ∧ (mi 87 i = 0 ∨ mi 87 i = 1) ∧ (0 ≤ mi 89 i ∧ mi 89 i ≤ 1000)) : SPg yX7_holdClapper cX7_holdClapper 4 (some .int) 3 [.ref 58, iI b, iI x] mi mr (Pi mr (fun r m => r = (if 0 ≤ b ∧ b < mi 58 6 then mi 87 b else -2) ∧ (r < 0 → m = aup mi 58 0 0) ∧ (0 ≤ r → m = aup (aup mi 58 0 0) 87 b x))) := by
  refine SPg.int rfl (by decide +kernel) (Nat.le_of_ble_eq_true rfl) ?_
  show AWm RX7 cX7_holdClapper 4 3 _ 0 [(0, .ref 58), (1, iI b), (2, iI x)] [] mi mr
  refine aw_aload_n (i := 0) (q := 0) dX7_holdClapper_0 rfl rfl ?_
  refine aw_iconst dX7_holdClapper_1 ?_
  refine aw_putIk 0 flX7_1 SH_58 (by decide) rfl rfl rfl (by decide) dX7_holdClapper_2 ?_
  refine aw_aload_n (i := 0) (q := 0) dX7_holdClapper_5 rfl rfl ?_
  refine aw_iload_n (i := 1) (q := 1) dX7_holdClapper_6 rfl rfl ?_
  refine aw_cVp (As := [iI b]) (st := []) clX7_149 (s_X7_isBell hR (by omega) (by first | omega | (rw [aup_k (a := 58) (x := 58) (j := 6) (by decide)]; omega))) SH_58 rfl (by decide) rfl rfl (Nat.le_of_ble_eq_true rfl) (by decide) (by decide) (Nat.le_refl _) (Nat.le_refl _) dX7_holdClapper_7 (fun v7 hv7 => ?_)
  try rw [aup_k (a := 58) (x := 58) (j := 6) (by decide)] at hv7
  refine aw_if_ne (tgt := 16) dX7_holdClapper_10 (by decide) (by first | assumption | omega) (fun c10 => ?_) (fun c10 => ?_)
  · have hk0 := hz b (by omega) (by omega)
    refine aw_aload_n (i := 0) (q := 0) dX7_holdClapper_16 rfl rfl ?_
    refine aw_getR (r := 87) flX7_102 SH_58 (by decide) rfl (rk_58_45 hR) dX7_holdClapper_17 ?_
    refine aw_iload_n (i := 1) (q := 1) dX7_holdClapper_20 rfl rfl ?_
    refine aw_zaldv (x := mi 87 b) SH_87 (by decide) ⟨by omega, by omega⟩ (by (rw [aup_a (by decide)]) <;> rfl) dX7_holdClapper_21 (fun r21 => ?_)
    refine aw_if_eq (tgt := 29) dX7_holdClapper_22 (by decide) (by first | assumption | omega) (fun c22 => ?_) (fun c22 => ?_)
    · refine aw_iconst dX7_holdClapper_29 ?_
      refine aw_istore_n (i := 3) (lv' := [(0, .ref 58), (1, iI b), (2, iI x), (3, iI 0)]) [1, 2, 3, 0] dX7_holdClapper_30 rfl (by decide) rfl ?_
      refine aw_aload_n (i := 0) (q := 0) dX7_holdClapper_31 rfl rfl ?_
      refine aw_getR (r := 87) flX7_102 SH_58 (by decide) rfl (rk_58_45 hR) dX7_holdClapper_32 ?_
      refine aw_iload_n (i := 1) (q := 1) dX7_holdClapper_35 rfl rfl ?_
      refine aw_iload_n (i := 2) (q := 2) dX7_holdClapper_36 rfl rfl ?_
      refine aw_zast SH_87 (by decide) ⟨by omega, by omega⟩ (by omega) dX7_holdClapper_37 ?_
      refine aw_iload_n (i := 3) (q := 3) dX7_holdClapper_38 rfl rfl ?_
      exact aw_iret ⟨_, rfl, rfl, rfl, (by (repeat' split) <;> omega), (fun h => by omega), (fun _ => rfl)⟩ (Nat.le_refl _) (Nat.le_refl _) dX7_holdClapper_39
    · refine aw_iconst dX7_holdClapper_25 ?_
      refine aw_goto (tgt := 30) dX7_holdClapper_26 (by decide) ?_
      refine aw_istore_n (i := 3) (lv' := [(0, .ref 58), (1, iI b), (2, iI x), (3, iI 1)]) [1, 2, 3, 0] dX7_holdClapper_30 rfl (by decide) rfl ?_
      refine aw_aload_n (i := 0) (q := 0) dX7_holdClapper_31 rfl rfl ?_
      refine aw_getR (r := 87) flX7_102 SH_58 (by decide) rfl (rk_58_45 hR) dX7_holdClapper_32 ?_
      refine aw_iload_n (i := 1) (q := 1) dX7_holdClapper_35 rfl rfl ?_
      refine aw_iload_n (i := 2) (q := 2) dX7_holdClapper_36 rfl rfl ?_
      refine aw_zast SH_87 (by decide) ⟨by omega, by omega⟩ (by omega) dX7_holdClapper_37 ?_
      refine aw_iload_n (i := 3) (q := 3) dX7_holdClapper_38 rfl rfl ?_
      exact aw_iret ⟨_, rfl, rfl, rfl, (by (repeat' split) <;> omega), (fun h => by omega), (fun _ => rfl)⟩ (Nat.le_refl _) (Nat.le_refl _) dX7_holdClapper_39
  · refine aw_bipush (x := -2) dX7_holdClapper_13 rfl ?_
    exact aw_iret ⟨_, rfl, rfl, rfl, (by (repeat' split) <;> omega), (fun _ => rfl), (fun h => by omega)⟩ (Nat.le_refl _) (Nat.le_refl _) dX7_holdClapper_15
theorem s_X7_stopMotor {mr : aR} (hR : Rok mr) {mi : aM} {b : Int} (h_b : -2147483648 ≤ b ∧ b ≤ 2147483647) (hn : 0 ≤ mi 58 6 ∧ mi 58 6 ≤ 12) (hz : ∀ i : Int, 0 ≤ i → i < mi 58 6 → (mi 86 i = 0 ∨ mi 86 i = 1) ∧ (mi 87 i = 0 ∨ mi 87 i = 1) ∧ (0 ≤ mi 89 i ∧ mi 89 i ≤ 1000)) : SPg yX7_stopMotor cX7_stopMotor 2 (some .int) 3 [.ref 58, iI b] mi mr (Pi mr (fun r m => r = (if 0 ≤ b ∧ b < mi 58 6 then (if mi 86 b = 0 then -1 else mi 89 b) else -2) ∧ (r < 0 → m = aup mi 58 0 0) ∧ (0 ≤ r → m = aup (aup mi 58 0 0) 88 b 0))) := by
  refine SPg.int rfl (by decide +kernel) (Nat.le_of_ble_eq_true rfl) ?_
  show AWm RX7 cX7_stopMotor 2 3 _ 0 [(0, .ref 58), (1, iI b)] [] mi mr
  refine aw_aload_n (i := 0) (q := 0) dX7_stopMotor_0 rfl rfl ?_
  refine aw_iconst dX7_stopMotor_1 ?_
  refine aw_putIk 0 flX7_1 SH_58 (by decide) rfl rfl rfl (by decide) dX7_stopMotor_2 ?_
  refine aw_aload_n (i := 0) (q := 0) dX7_stopMotor_5 rfl rfl ?_
  refine aw_iload_n (i := 1) (q := 1) dX7_stopMotor_6 rfl rfl ?_
  refine aw_cVp (As := [iI b]) (st := []) clX7_149 (s_X7_isBell hR (by omega) (by first | omega | (rw [aup_k (a := 58) (x := 58) (j := 6) (by decide)]; omega))) SH_58 rfl (by decide) rfl rfl (Nat.le_of_ble_eq_true rfl) (by decide) (by decide) (Nat.le_refl _) (Nat.le_refl _) dX7_stopMotor_7 (fun v7 hv7 => ?_)
  try rw [aup_k (a := 58) (x := 58) (j := 6) (by decide)] at hv7
  refine aw_if_ne (tgt := 16) dX7_stopMotor_10 (by decide) (by first | assumption | omega) (fun c10 => ?_) (fun c10 => ?_)
  · have hk0 := hz b (by omega) (by omega)
    refine aw_aload_n (i := 0) (q := 0) dX7_stopMotor_16 rfl rfl ?_
    refine aw_getR (r := 86) flX7_99 SH_58 (by decide) rfl (rk_58_44 hR) dX7_stopMotor_17 ?_
    refine aw_iload_n (i := 1) (q := 1) dX7_stopMotor_20 rfl rfl ?_
    refine aw_zaldv (x := mi 86 b) SH_86 (by decide) ⟨by omega, by omega⟩ (by (rw [aup_a (by decide)]) <;> rfl) dX7_stopMotor_21 (fun r21 => ?_)
    refine aw_if_ne (tgt := 27) dX7_stopMotor_22 (by decide) (by first | assumption | omega) (fun c22 => ?_) (fun c22 => ?_)
    · refine aw_aload_n (i := 0) (q := 0) dX7_stopMotor_27 rfl rfl ?_
      refine aw_getR (r := 88) flX7_105 SH_58 (by decide) rfl (rk_58_46 hR) dX7_stopMotor_28 ?_
      refine aw_iload_n (i := 1) (q := 1) dX7_stopMotor_31 rfl rfl ?_
      refine aw_iconst dX7_stopMotor_32 ?_
      refine aw_zast SH_88 (by decide) ⟨by omega, by omega⟩ (by decide) dX7_stopMotor_33 ?_
      refine aw_aload_n (i := 0) (q := 0) dX7_stopMotor_34 rfl rfl ?_
      refine aw_getR (r := 89) flX7_108 SH_58 (by decide) rfl (rk_58_47 hR) dX7_stopMotor_35 ?_
      refine aw_iload_n (i := 1) (q := 1) dX7_stopMotor_38 rfl rfl ?_
      refine aw_ialdv (x := mi 89 b) SH_89 (by decide) ⟨by omega, by omega⟩ (by (rw [aup_a (by decide), aup_a (by decide)]) <;> rfl) dX7_stopMotor_39 (fun r39 => ?_)
      exact aw_iret ⟨_, rfl, rfl, rfl, (by (repeat' split) <;> omega), (fun h => by omega), (fun _ => rfl)⟩ (Nat.le_refl _) (Nat.le_refl _) dX7_stopMotor_40
    · refine aw_iconst dX7_stopMotor_25 ?_
      exact aw_iret ⟨_, rfl, rfl, rfl, (by (repeat' split) <;> omega), (fun _ => rfl), (fun h => by omega)⟩ (Nat.le_refl _) (Nat.le_refl _) dX7_stopMotor_26
  · refine aw_bipush (x := -2) dX7_stopMotor_13 rfl ?_
    exact aw_iret ⟨_, rfl, rfl, rfl, (by (repeat' split) <;> omega), (fun _ => rfl), (fun h => by omega)⟩ (Nat.le_refl _) (Nat.le_refl _) dX7_stopMotor_15
theorem s_X7_recordMany {mr : aR} (hR : Rok mr) {mi : aM} (hr : 0 ≤ mi 58 13 ∧ mi 58 13 ≤ 3000000) : SPg yX7_recordMany cX7_recordMany 1 (some .int) 1 [.ref 58] mi mr (Pp mi mr (fun r => r = if mi 58 13 < 200 then mi 58 13 else 200)) := by
  refine SPg.pure rfl (by decide +kernel) (Nat.le_of_ble_eq_true rfl) ?_
  show AWm RX7 cX7_recordMany 1 1 _ 0 [(0, .ref 58)] [] mi mr
  refine aw_aload_n (i := 0) (q := 0) dX7_recordMany_0 rfl rfl ?_
  refine aw_getIk (x := mi 58 13) 13 flX7_155 SH_58 (by decide) rfl rfl rfl dX7_recordMany_1 (fun r1 => ?_)
  refine aw_sipush (x := 200) dX7_recordMany_4 rfl ?_
  refine aw_icmp_ge (tgt := 17) dX7_recordMany_7 (by decide) (by first | assumption | omega) (by decide) (fun c7 => ?_) (fun c7 => ?_)
  · refine aw_sipush (x := 200) dX7_recordMany_17 rfl ?_
    exact aw_iret ⟨_, rfl, rfl, rfl, rfl, (by (repeat' split) <;> omega)⟩ (Nat.le_refl _) (Nat.le_refl _) dX7_recordMany_20
  · refine aw_aload_n (i := 0) (q := 0) dX7_recordMany_10 rfl rfl ?_
    refine aw_getIk (x := mi 58 13) 13 flX7_155 SH_58 (by decide) rfl rfl rfl dX7_recordMany_11 (fun r11 => ?_)
    refine aw_goto (tgt := 20) dX7_recordMany_14 (by decide) ?_
    exact aw_iret ⟨_, rfl, rfl, rfl, rfl, (by (repeat' split) <;> omega)⟩ (Nat.le_refl _) (Nat.le_refl _) dX7_recordMany_20
theorem s_X7_recordLength {mr : aR} (hR : Rok mr) {mi : aM} (hr : 0 ≤ mi 58 13 ∧ mi 58 13 ≤ 3000000) : SPg yX7_recordLength cX7_recordLength 1 (some .int) 2 [.ref 58] mi mr (Pi mr (fun r m => m = aup mi 58 0 0 ∧ r = if mi 58 13 < 200 then mi 58 13 else 200)) := by
  refine SPg.int rfl (by decide +kernel) (Nat.le_of_ble_eq_true rfl) ?_
  show AWm RX7 cX7_recordLength 1 2 _ 0 [(0, .ref 58)] [] mi mr
  refine aw_aload_n (i := 0) (q := 0) dX7_recordLength_0 rfl rfl ?_
  refine aw_iconst dX7_recordLength_1 ?_
  refine aw_putIk 0 flX7_1 SH_58 (by decide) rfl rfl rfl (by decide) dX7_recordLength_2 ?_
  refine aw_aload_n (i := 0) (q := 0) dX7_recordLength_5 rfl rfl ?_
  refine aw_cVp (As := []) (st := []) clX7_161 (s_X7_recordMany hR (by first | omega | (rw [aup_k (a := 58) (x := 58) (j := 13) (by decide)]; omega))) SH_58 rfl (by decide) rfl rfl (Nat.le_of_ble_eq_true rfl) (by decide) (by decide) (Nat.le_refl _) (Nat.le_refl _) dX7_recordLength_6 (fun v6 hv6 => ?_)
  try rw [aup_k (a := 58) (x := 58) (j := 13) (by decide)] at hv6
  exact aw_iret ⟨_, rfl, rfl, rfl, rfl, hv6⟩ (Nat.le_refl _) (Nat.le_refl _) dX7_recordLength_9
theorem s_X7_recordAt {mr : aR} (hR : Rok mr) {mi : aM} {i : Int} (h_i : -2147483648 ≤ i ∧ i ≤ 2147483647) (hr : 0 ≤ mi 58 13 ∧ mi 58 13 ≤ 3000000) : SPg yX7_recordAt cX7_recordAt 2 (some .int) 2 [.ref 58, iI i] mi mr (Pp mi mr (fun r => (i < 0 ∧ r = -3) ∨ (0 ≤ i ∧ (if mi 58 13 < 200 then mi 58 13 else 200) ≤ i ∧ r = -1) ∨ (0 ≤ i ∧ i < (if mi 58 13 < 200 then mi 58 13 else 200) ∧ (0 ≤ r ∧ r < 200) ∧ r = (mi 58 13 - 1 - i) % 200))) := by
  refine SPg.pure rfl (by decide +kernel) (Nat.le_of_ble_eq_true rfl) ?_
  show AWm RX7 cX7_recordAt 2 2 _ 0 [(0, .ref 58), (1, iI i)] [] mi mr
  refine aw_iload_n (i := 1) (q := 1) dX7_recordAt_0 rfl rfl ?_
  refine aw_if_ge (tgt := 7) dX7_recordAt_1 (by decide) (by first | assumption | omega) (fun c1 => ?_) (fun c1 => ?_)
  · refine aw_iload_n (i := 1) (q := 1) dX7_recordAt_7 rfl rfl ?_
    refine aw_aload_n (i := 0) (q := 0) dX7_recordAt_8 rfl rfl ?_
    refine aw_cVp (As := []) (st := [iI i]) clX7_161 (s_X7_recordMany hR (by first | omega | (rw [aup_k (a := 58) (x := 58) (j := 13) (by decide)]; omega))) SH_58 rfl (by decide) rfl rfl (Nat.le_of_ble_eq_true rfl) (by decide) (by decide) (Nat.le_refl _) (Nat.le_refl _) dX7_recordAt_9 (fun v9 hv9 => ?_)
    try rw [aup_k (a := 58) (x := 58) (j := 13) (by decide)] at hv9
    refine aw_icmp_ge (tgt := 30) dX7_recordAt_12 (by decide) (by first | assumption | omega) (by first | assumption | omega) (fun c12 => ?_) (fun c12 => ?_)
    · refine aw_iconst dX7_recordAt_30 ?_
      exact aw_iret ⟨_, rfl, rfl, rfl, rfl, (by first | exact Or.inl ⟨by omega, rfl⟩ | (refine Or.inr ?_; by_cases q : mi 58 13 < 200; (rw [if_pos q] at *; first | (exact Or.inl ⟨by omega, by omega, rfl⟩) | (exact Or.inr ⟨by omega, by omega, by omega, by omega⟩)); (rw [if_neg q] at *; first | (exact Or.inl ⟨by omega, by omega, rfl⟩) | (exact Or.inr ⟨by omega, by omega, by omega, by omega⟩))))⟩ (Nat.le_refl _) (Nat.le_refl _) dX7_recordAt_31
    · have hq9 : mi 58 13 - 1 - i - (mi 58 13 - 1 - i).tdiv 200 * 200 = (mi 58 13 - 1 - i) % 200 := by rw [Int.tdiv_eq_ediv_of_nonneg (by omega)]; omega
      refine aw_aload_n (i := 0) (q := 0) dX7_recordAt_15 rfl rfl ?_
      refine aw_getIk (x := mi 58 13) 13 flX7_155 SH_58 (by decide) rfl rfl rfl dX7_recordAt_16 (fun r16 => ?_)
      refine aw_iconst dX7_recordAt_19 ?_
      refine aw_isub dX7_recordAt_20 ?_
      refine aw_iload_n (i := 1) (q := 1) dX7_recordAt_21 rfl rfl ?_
      refine aw_isub dX7_recordAt_22 ?_
      refine aw_sipush (x := 200) dX7_recordAt_23 rfl ?_
      refine aw_irem dX7_recordAt_26 (by first | assumption | omega) (by decide) (by omega) (by omega) ?_
      refine aw_goto (tgt := 31) dX7_recordAt_27 (by decide) ?_
      exact aw_iret ⟨_, rfl, rfl, rfl, rfl, (by show _ ∨ _ ∨ _; rw [hq9]; clear hq9; refine Or.inr (Or.inr ⟨by omega, ?_, by omega, rfl⟩); by_cases q : mi 58 13 < 200; (rw [if_pos q] at *; omega); (rw [if_neg q] at *; omega))⟩ (Nat.le_refl _) (Nat.le_refl _) dX7_recordAt_31
  · refine aw_bipush (x := -3) dX7_recordAt_4 rfl ?_
    exact aw_iret ⟨_, rfl, rfl, rfl, rfl, (by first | exact Or.inl ⟨by omega, rfl⟩ | (refine Or.inr ?_; by_cases q : mi 58 13 < 200; (rw [if_pos q] at *; first | (exact Or.inl ⟨by omega, by omega, rfl⟩) | (exact Or.inr ⟨by omega, by omega, by omega, by omega⟩)); (rw [if_neg q] at *; first | (exact Or.inl ⟨by omega, by omega, rfl⟩) | (exact Or.inr ⟨by omega, by omega, by omega, by omega⟩))))⟩ (Nat.le_refl _) (Nat.le_refl _) dX7_recordAt_6
theorem s_X7_recordBell {mr : aR} (hR : Rok mr) {mi : aM} {i : Int} (h_i : -2147483648 ≤ i ∧ i ≤ 2147483647) (hr : 0 ≤ mi 58 13 ∧ mi 58 13 ≤ 3000000) : SPg yX7_recordBell cX7_recordBell 3 (some .int) 3 [.ref 58, iI i] mi mr (Pi mr (fun r m => m = aup mi 58 0 0 ∧ r = if i < 0 then -3 else if (if mi 58 13 < 200 then mi 58 13 else 200) ≤ i then -1 else mi 64 ((mi 58 13 - 1 - i) % 200))) := by
  refine SPg.int rfl (by decide +kernel) (Nat.le_of_ble_eq_true rfl) ?_
  show AWm RX7 cX7_recordBell 3 3 _ 0 [(0, .ref 58), (1, iI i)] [] mi mr
  refine aw_aload_n (i := 0) (q := 0) dX7_recordBell_0 rfl rfl ?_
  refine aw_iconst dX7_recordBell_1 ?_
  refine aw_putIk 0 flX7_1 SH_58 (by decide) rfl rfl rfl (by decide) dX7_recordBell_2 ?_
  refine aw_aload_n (i := 0) (q := 0) dX7_recordBell_5 rfl rfl ?_
  refine aw_iload_n (i := 1) (q := 1) dX7_recordBell_6 rfl rfl ?_
  refine aw_cVp (As := [iI i]) (st := []) clX7_165 (s_X7_recordAt hR (by omega) (by first | omega | (rw [aup_k (a := 58) (x := 58) (j := 13) (by decide)]; omega))) SH_58 rfl (by decide) rfl rfl (Nat.le_of_ble_eq_true rfl) (by decide) (by decide) (Nat.le_refl _) (Nat.le_refl _) dX7_recordBell_7 (fun v7 hv7 => ?_)
  try rw [aup_k (a := 58) (x := 58) (j := 13) (by decide)] at hv7
  have hv7r : -3 ≤ v7 ∧ v7 < 200 := by rcases hv7 with q | q | q <;> omega
  refine aw_istore_n (i := 2) (lv' := [(0, .ref 58), (1, iI i), (2, iI v7)]) [1, 2, 0] dX7_recordBell_10 rfl (by decide) rfl ?_
  refine aw_iload_n (i := 2) (q := 2) dX7_recordBell_11 rfl rfl ?_
  refine aw_if_ge (tgt := 19) dX7_recordBell_12 (by decide) (by first | assumption | omega) (fun c12 => ?_) (fun c12 => ?_)
  · refine aw_aload_n (i := 0) (q := 0) dX7_recordBell_19 rfl rfl ?_
    refine aw_getR (r := 64) flX7_29 SH_58 (by decide) rfl (rk_58_10 hR) dX7_recordBell_20 ?_
    refine aw_iload_n (i := 2) (q := 2) dX7_recordBell_23 rfl rfl ?_
    refine aw_ialdv (x := mi 64 v7) SH_64 (by decide) ⟨by omega, by omega⟩ (by (rw [aup_a (by decide)]) <;> rfl) dX7_recordBell_24 (fun r24 => ?_)
    exact aw_iret ⟨_, rfl, rfl, rfl, rfl, (by rcases hv7 with ⟨q1, q2⟩ | ⟨q1, q2, q3⟩ | ⟨q1, q2, q3, q4⟩; (omega); (omega); (rw [if_neg (by omega), if_neg (by omega), ← q4] <;> omega))⟩ (Nat.le_refl _) (Nat.le_refl _) dX7_recordBell_25
  · refine aw_iload_n (i := 2) (q := 2) dX7_recordBell_15 rfl rfl ?_
    refine aw_goto (tgt := 25) dX7_recordBell_16 (by decide) ?_
    exact aw_iret ⟨_, rfl, rfl, rfl, rfl, (by rcases hv7 with ⟨q1, q2⟩ | ⟨q1, q2, q3⟩ | ⟨q1, q2, q3, q4⟩; (rw [if_pos q1]; exact q2); (rw [if_neg (by omega), if_pos q2]; exact q3); (omega))⟩ (Nat.le_refl _) (Nat.le_refl _) dX7_recordBell_25
theorem s_X7_recordTime {mr : aR} (hR : Rok mr) {mi : aM} {i : Int} (h_i : -2147483648 ≤ i ∧ i ≤ 2147483647) (hr : 0 ≤ mi 58 13 ∧ mi 58 13 ≤ 3000000) : SPg yX7_recordTime cX7_recordTime 3 (some .int) 3 [.ref 58, iI i] mi mr (Pi mr (fun r m => m = aup mi 58 0 0 ∧ r = if i < 0 then -3 else if (if mi 58 13 < 200 then mi 58 13 else 200) ≤ i then -1 else mi 65 ((mi 58 13 - 1 - i) % 200))) := by
  refine SPg.int rfl (by decide +kernel) (Nat.le_of_ble_eq_true rfl) ?_
  show AWm RX7 cX7_recordTime 3 3 _ 0 [(0, .ref 58), (1, iI i)] [] mi mr
  refine aw_aload_n (i := 0) (q := 0) dX7_recordTime_0 rfl rfl ?_
  refine aw_iconst dX7_recordTime_1 ?_
  refine aw_putIk 0 flX7_1 SH_58 (by decide) rfl rfl rfl (by decide) dX7_recordTime_2 ?_
  refine aw_aload_n (i := 0) (q := 0) dX7_recordTime_5 rfl rfl ?_
  refine aw_iload_n (i := 1) (q := 1) dX7_recordTime_6 rfl rfl ?_
  refine aw_cVp (As := [iI i]) (st := []) clX7_165 (s_X7_recordAt hR (by omega) (by first | omega | (rw [aup_k (a := 58) (x := 58) (j := 13) (by decide)]; omega))) SH_58 rfl (by decide) rfl rfl (Nat.le_of_ble_eq_true rfl) (by decide) (by decide) (Nat.le_refl _) (Nat.le_refl _) dX7_recordTime_7 (fun v7 hv7 => ?_)
  try rw [aup_k (a := 58) (x := 58) (j := 13) (by decide)] at hv7
  have hv7r : -3 ≤ v7 ∧ v7 < 200 := by rcases hv7 with q | q | q <;> omega
  refine aw_istore_n (i := 2) (lv' := [(0, .ref 58), (1, iI i), (2, iI v7)]) [1, 2, 0] dX7_recordTime_10 rfl (by decide) rfl ?_
  refine aw_iload_n (i := 2) (q := 2) dX7_recordTime_11 rfl rfl ?_
  refine aw_if_ge (tgt := 19) dX7_recordTime_12 (by decide) (by first | assumption | omega) (fun c12 => ?_) (fun c12 => ?_)
  · refine aw_aload_n (i := 0) (q := 0) dX7_recordTime_19 rfl rfl ?_
    refine aw_getR (r := 65) flX7_32 SH_58 (by decide) rfl (rk_58_11 hR) dX7_recordTime_20 ?_
    refine aw_iload_n (i := 2) (q := 2) dX7_recordTime_23 rfl rfl ?_
    refine aw_ialdv (x := mi 65 v7) SH_65 (by decide) ⟨by omega, by omega⟩ (by (rw [aup_a (by decide)]) <;> rfl) dX7_recordTime_24 (fun r24 => ?_)
    exact aw_iret ⟨_, rfl, rfl, rfl, rfl, (by rcases hv7 with ⟨q1, q2⟩ | ⟨q1, q2, q3⟩ | ⟨q1, q2, q3, q4⟩; (omega); (omega); (rw [if_neg (by omega), if_neg (by omega), ← q4] <;> omega))⟩ (Nat.le_refl _) (Nat.le_refl _) dX7_recordTime_25
  · refine aw_iload_n (i := 2) (q := 2) dX7_recordTime_15 rfl rfl ?_
    refine aw_goto (tgt := 25) dX7_recordTime_16 (by decide) ?_
    exact aw_iret ⟨_, rfl, rfl, rfl, rfl, (by rcases hv7 with ⟨q1, q2⟩ | ⟨q1, q2, q3⟩ | ⟨q1, q2, q3, q4⟩; (rw [if_pos q1]; exact q2); (rw [if_neg (by omega), if_pos q2]; exact q3); (omega))⟩ (Nat.le_refl _) (Nat.le_refl _) dX7_recordTime_25
theorem s_X7_recordClapper {mr : aR} (hR : Rok mr) {mi : aM} {i : Int} (h_i : -2147483648 ≤ i ∧ i ≤ 2147483647) (hr : 0 ≤ mi 58 13 ∧ mi 58 13 ≤ 3000000) (hb : ∀ j : Int, 0 ≤ j → j < 200 → mi 66 j = 0 ∨ mi 66 j = 1) : SPg yX7_recordClapper cX7_recordClapper 3 (some .int) 3 [.ref 58, iI i] mi mr (Pi mr (fun r m => m = aup mi 58 0 0 ∧ r = if i < 0 then -3 else if (if mi 58 13 < 200 then mi 58 13 else 200) ≤ i then -1 else mi 66 ((mi 58 13 - 1 - i) % 200))) := by
  refine SPg.int rfl (by decide +kernel) (Nat.le_of_ble_eq_true rfl) ?_
  show AWm RX7 cX7_recordClapper 3 3 _ 0 [(0, .ref 58), (1, iI i)] [] mi mr
  refine aw_aload_n (i := 0) (q := 0) dX7_recordClapper_0 rfl rfl ?_
  refine aw_iconst dX7_recordClapper_1 ?_
  refine aw_putIk 0 flX7_1 SH_58 (by decide) rfl rfl rfl (by decide) dX7_recordClapper_2 ?_
  refine aw_aload_n (i := 0) (q := 0) dX7_recordClapper_5 rfl rfl ?_
  refine aw_iload_n (i := 1) (q := 1) dX7_recordClapper_6 rfl rfl ?_
  refine aw_cVp (As := [iI i]) (st := []) clX7_165 (s_X7_recordAt hR (by omega) (by first | omega | (rw [aup_k (a := 58) (x := 58) (j := 13) (by decide)]; omega))) SH_58 rfl (by decide) rfl rfl (Nat.le_of_ble_eq_true rfl) (by decide) (by decide) (Nat.le_refl _) (Nat.le_refl _) dX7_recordClapper_7 (fun v7 hv7 => ?_)
  try rw [aup_k (a := 58) (x := 58) (j := 13) (by decide)] at hv7
  have hv7r : -3 ≤ v7 ∧ v7 < 200 := by rcases hv7 with q | q | q <;> omega
  refine aw_istore_n (i := 2) (lv' := [(0, .ref 58), (1, iI i), (2, iI v7)]) [1, 2, 0] dX7_recordClapper_10 rfl (by decide) rfl ?_
  refine aw_iload_n (i := 2) (q := 2) dX7_recordClapper_11 rfl rfl ?_
  refine aw_if_ge (tgt := 19) dX7_recordClapper_12 (by decide) (by first | assumption | omega) (fun c12 => ?_) (fun c12 => ?_)
  · have hb9 := hb v7 (by omega) (by omega)
    refine aw_aload_n (i := 0) (q := 0) dX7_recordClapper_19 rfl rfl ?_
    refine aw_getR (r := 66) flX7_35 SH_58 (by decide) rfl (rk_58_12 hR) dX7_recordClapper_20 ?_
    refine aw_iload_n (i := 2) (q := 2) dX7_recordClapper_23 rfl rfl ?_
    refine aw_zaldv (x := mi 66 v7) SH_66 (by decide) ⟨by omega, by omega⟩ (by (rw [aup_a (by decide)]) <;> rfl) dX7_recordClapper_24 (fun r24 => ?_)
    refine aw_if_eq (tgt := 32) dX7_recordClapper_25 (by decide) (by first | assumption | omega) (fun c25 => ?_) (fun c25 => ?_)
    · refine aw_iconst dX7_recordClapper_32 ?_
      exact aw_iret ⟨_, rfl, rfl, rfl, rfl, (by rcases hv7 with ⟨q1, q2⟩ | ⟨q1, q2, q3⟩ | ⟨q1, q2, q3, q4⟩; (omega); (omega); (rw [if_neg (by omega), if_neg (by omega), ← q4] <;> omega))⟩ (Nat.le_refl _) (Nat.le_refl _) dX7_recordClapper_33
    · refine aw_iconst dX7_recordClapper_28 ?_
      refine aw_goto (tgt := 33) dX7_recordClapper_29 (by decide) ?_
      exact aw_iret ⟨_, rfl, rfl, rfl, rfl, (by rcases hv7 with ⟨q1, q2⟩ | ⟨q1, q2, q3⟩ | ⟨q1, q2, q3, q4⟩; (omega); (omega); (rw [if_neg (by omega), if_neg (by omega), ← q4] <;> omega))⟩ (Nat.le_refl _) (Nat.le_refl _) dX7_recordClapper_33
  · refine aw_iload_n (i := 2) (q := 2) dX7_recordClapper_15 rfl rfl ?_
    refine aw_goto (tgt := 33) dX7_recordClapper_16 (by decide) ?_
    exact aw_iret ⟨_, rfl, rfl, rfl, rfl, (by rcases hv7 with ⟨q1, q2⟩ | ⟨q1, q2, q3⟩ | ⟨q1, q2, q3, q4⟩; (rw [if_pos q1]; exact q2); (rw [if_neg (by omega), if_pos q2]; exact q3); (omega))⟩ (Nat.le_refl _) (Nat.le_refl _) dX7_recordClapper_33
theorem s_X7_stepBells {mr : aR} (hR : Rok mr) {mi : aM} {w k : Int} (h_w : -2147483648 ≤ w ∧ w ≤ 2147483647) (h_k : -2147483648 ≤ k ∧ k ≤ 2147483647) (hm : ∀ x : Int, 0 ≤ x → x < 5 → 0 ≤ mi 73 x ∧ mi 73 x ≤ 100) : SPg yX7_stepBells cX7_stepBells 3 (some .int) 3 [.ref 58, iI w, iI k] mi mr (Pi mr (fun r m => m = aup mi 58 0 0 ∧ r = if 0 ≤ w ∧ w < 5 then (if mi 73 w = 0 then -9 else if 0 ≤ k ∧ k < mi 73 w then mi 72 (100 * w + k) else -1) else -2)) := by
  refine SPg.int rfl (by decide +kernel) (Nat.le_of_ble_eq_true rfl) ?_
  show AWm RX7 cX7_stepBells 3 3 _ 0 [(0, .ref 58), (1, iI w), (2, iI k)] [] mi mr
  refine aw_aload_n (i := 0) (q := 0) dX7_stepBells_0 rfl rfl ?_
  refine aw_iconst dX7_stepBells_1 ?_
  refine aw_putIk 0 flX7_1 SH_58 (by decide) rfl rfl rfl (by decide) dX7_stepBells_2 ?_
  refine aw_iload_n (i := 1) (q := 1) dX7_stepBells_5 rfl rfl ?_
  refine aw_cSp (As := [iI w]) (st := []) clX7_252 (s_X7_isPattern hR (by omega)) rfl rfl (Nat.le_of_ble_eq_true rfl) (by decide) (by decide) (Nat.le_refl _) (Nat.le_refl _) dX7_stepBells_6 (fun v6 hv6 => ?_)
  refine aw_if_ne (tgt := 15) dX7_stepBells_9 (by decide) (by first | assumption | omega) (fun c9 => ?_) (fun c9 => ?_)
  · have hm9 := hm w (by omega) (by omega)
    refine aw_aload_n (i := 0) (q := 0) dX7_stepBells_15 rfl rfl ?_
    refine aw_getR (r := 73) flX7_57 SH_58 (by decide) rfl (rk_58_21 hR) dX7_stepBells_16 ?_
    refine aw_iload_n (i := 1) (q := 1) dX7_stepBells_19 rfl rfl ?_
    refine aw_ialdv (x := mi 73 w) SH_73 (by decide) ⟨by omega, by omega⟩ (by (rw [aup_a (by decide)]) <;> rfl) dX7_stepBells_20 (fun r20 => ?_)
    refine aw_if_ne (tgt := 27) dX7_stepBells_21 (by decide) (by first | assumption | omega) (fun c21 => ?_) (fun c21 => ?_)
    · refine aw_iload_n (i := 2) (q := 2) dX7_stepBells_27 rfl rfl ?_
      refine aw_i2l dX7_stepBells_28 (by first | assumption | omega) ?_
      refine aw_lconst (x := 0) dX7_stepBells_29 rfl ?_
      refine aw_aload_n (i := 0) (q := 0) dX7_stepBells_30 rfl rfl ?_
      refine aw_getR (r := 73) flX7_57 SH_58 (by decide) rfl (rk_58_21 hR) dX7_stepBells_31 ?_
      refine aw_iload_n (i := 1) (q := 1) dX7_stepBells_34 rfl rfl ?_
      refine aw_ialdv (x := mi 73 w) SH_73 (by decide) ⟨by omega, by omega⟩ (by (rw [aup_a (by decide)]) <;> rfl) dX7_stepBells_35 (fun r35 => ?_)
      refine aw_iconst dX7_stepBells_36 ?_
      refine aw_isub dX7_stepBells_37 ?_
      refine aw_i2l dX7_stepBells_38 (by first | assumption | omega) ?_
      refine aw_cSp (As := [lL k, lL 0, lL ((mi 73 w) - 1)]) (st := []) clX7_135 (s_X7_isIn hR (by omega) (by omega) (by omega)) rfl rfl (Nat.le_of_ble_eq_true rfl) (by decide) (by decide) (Nat.le_refl _) (Nat.le_refl _) dX7_stepBells_39 (fun v39 hv39 => ?_)
      refine aw_if_eq (tgt := 59) dX7_stepBells_42 (by decide) (by first | assumption | omega) (fun c42 => ?_) (fun c42 => ?_)
      · refine aw_iconst dX7_stepBells_59 ?_
        exact aw_iret ⟨_, rfl, rfl, rfl, rfl, (by (repeat' split) <;> omega)⟩ (Nat.le_refl _) (Nat.le_refl _) dX7_stepBells_60
      · refine aw_aload_n (i := 0) (q := 0) dX7_stepBells_45 rfl rfl ?_
        refine aw_getR (r := 72) flX7_54 SH_58 (by decide) rfl (rk_58_20 hR) dX7_stepBells_46 ?_
        refine aw_bipush (x := 100) dX7_stepBells_49 rfl ?_
        refine aw_iload_n (i := 1) (q := 1) dX7_stepBells_51 rfl rfl ?_
        refine aw_imul dX7_stepBells_52 ?_
        refine aw_iload_n (i := 2) (q := 2) dX7_stepBells_53 rfl rfl ?_
        refine aw_iadd dX7_stepBells_54 ?_
        refine aw_ialdv (x := mi 72 ((100 * w) + k)) SH_72 (by decide) ⟨by omega, by omega⟩ (by (rw [aup_a (by decide)]) <;> rfl) dX7_stepBells_55 (fun r55 => ?_)
        refine aw_goto (tgt := 60) dX7_stepBells_56 (by decide) ?_
        exact aw_iret ⟨_, rfl, rfl, rfl, rfl, (by (repeat' split) <;> omega)⟩ (Nat.le_refl _) (Nat.le_refl _) dX7_stepBells_60
    · refine aw_bipush (x := -9) dX7_stepBells_24 rfl ?_
      exact aw_iret ⟨_, rfl, rfl, rfl, rfl, (by (repeat' split) <;> omega)⟩ (Nat.le_refl _) (Nat.le_refl _) dX7_stepBells_26
  · refine aw_bipush (x := -2) dX7_stepBells_12 rfl ?_
    exact aw_iret ⟨_, rfl, rfl, rfl, rfl, (by (repeat' split) <;> omega)⟩ (Nat.le_refl _) (Nat.le_refl _) dX7_stepBells_14
