-- part 78: the calls that only look, on both sides (printed by wip/whole/gen/p78.py)
section OPL
variable {mi : aM} {mr : aR} {E : Int → Nat}
theorem o_bellCount (h : RS mi mr E) : OP yX6_bellCount cX6_bellCount 1 1 yX7_bellCount cX7_bellCount 1 1 [] mi mr := by
  have hk0 := h.1.2.2
  exact OP.q h (s_X6_bellCount h.1.1) (s_X7_bellCount h.1.1) (fun r q p1 p2 => by rw [p2, p1]; exact hk0.2.1.1)
theorem o_delay (h : RS mi mr E) {b : Int} (h_b : -2147483648 ≤ b ∧ b ≤ 2147483647) : OP yX6_delay cX6_delay 2 2 yX7_delay cX7_delay 2 3 [iI b] mi mr := by
  have hk0 := h.1.2.2
  exact OP.q h (s_X6_delay h.1.1 h_b (kc_n hk0)) (s_X7_delay h.1.1 h_b (km_n hk0)) (fun r q p1 p2 => by rw [p2, p1]; exact an_delay hk0)
theorem o_currentTime (h : RS mi mr E) : OP yX6_currentTime cX6_currentTime 1 1 yX7_currentTime cX7_currentTime 1 1 [] mi mr := by
  have hk0 := h.1.2.2
  exact OP.q h (s_X6_currentTime h.1.1) (s_X7_currentTime h.1.1) (fun r q p1 p2 => by rw [p2, p1]; exact hk0.2.1.2.2.2.1)
theorem o_recordLength (h : RS mi mr E) : OP yX6_recordLength cX6_recordLength 1 1 yX7_recordLength cX7_recordLength 1 2 [] mi mr := by
  have hk0 := h.1.2.2
  exact OP.q h (s_X6_recordLength h.1.1) (s_X7_recordLength h.1.1 (km_r hk0)) (fun r q p1 p2 => by rw [p2, p1]; exact hk0.2.2.2.1.1.symm)
theorem o_recordBell (h : RS mi mr E) {i : Int} (h_i : -2147483648 ≤ i ∧ i ≤ 2147483647) : OP yX6_recordBell cX6_recordBell 3 2 yX7_recordBell cX7_recordBell 3 3 [iI i] mi mr := by
  have hk0 := h.1.2.2
  exact OP.q h (s_X6_recordBell h.1.1 h_i (kc_lg hk0).1 (kc_lg hk0).2) (s_X7_recordBell h.1.1 h_i (km_r hk0)) (fun r q p1 p2 => by rw [p2, p1]; exact an_record hk0 (fun k k0 k1 => (hk0.2.2.2.1.2.2.2 k k0 k1).1))
theorem o_recordTime (h : RS mi mr E) {i : Int} (h_i : -2147483648 ≤ i ∧ i ≤ 2147483647) : OP yX6_recordTime cX6_recordTime 3 2 yX7_recordTime cX7_recordTime 3 3 [iI i] mi mr := by
  have hk0 := h.1.2.2
  exact OP.q h (s_X6_recordTime h.1.1 h_i (kc_lg hk0).1 (kc_lg hk0).2) (s_X7_recordTime h.1.1 h_i (km_r hk0)) (fun r q p1 p2 => by rw [p2, p1]; exact an_record hk0 (fun k k0 k1 => (hk0.2.2.2.1.2.2.2 k k0 k1).2.1))
theorem o_recordClapper (h : RS mi mr E) {i : Int} (h_i : -2147483648 ≤ i ∧ i ≤ 2147483647) : OP yX6_recordClapper cX6_recordClapper 3 2 yX7_recordClapper cX7_recordClapper 3 3 [iI i] mi mr := by
  have hk0 := h.1.2.2
  exact OP.q h (s_X6_recordClapper h.1.1 h_i (kc_lg hk0).1 (kc_lg hk0).2) (s_X7_recordClapper h.1.1 h_i (km_r hk0) (km_66 hk0)) (fun r q p1 p2 => by rw [p2, p1]; exact an_record hk0 (fun k k0 k1 => (hk0.2.2.2.1.2.2.2 k k0 k1).2.2.1))
theorem o_scheduledCount (h : RS mi mr E) : OP yX6_scheduledCount cX6_scheduledCount 1 1 yX7_scheduledCount cX7_scheduledCount 1 1 [] mi mr := by
  have hk0 := h.1.2.2
  exact OP.q h (s_X6_scheduledCount h.1.1) (s_X7_scheduledCount h.1.1) (fun r q p1 p2 => by rw [p2, p1]; exact hk0.2.2.2.2.1.2.1)
theorem o_nextStroke (h : RS mi mr E) {b : Int} (h_b : -2147483648 ≤ b ∧ b ≤ 2147483647) : OP yX6_nextStroke cX6_nextStroke 2 2 yX7_nextStroke cX7_nextStroke 2 3 [iI b] mi mr := by
  have hk0 := h.1.2.2
  have hk : KK mi (aup mi 58 0 0) E := RR_go h.1 (fun _ _ _ => rfl)
  exact OP.q h (s_X6_nextStroke h.1.1 h_b (kc_n hk0) (kc_o hk0)) (s_X7_nextStroke h.1.1 h_b (km_B hk) (km_o hk) (km_t0 hk)) (fun r q p1 p2 => an_next hk p1 p2)
theorem o_commandTime (h : RS mi mr E) {i : Int} (h_i : -2147483648 ≤ i ∧ i ≤ 2147483647) : OP yX6_commandTime cX6_commandTime 2 1 yX7_commandTime cX7_commandTime 3 2 [iI i] mi mr := by
  have hk0 := h.1.2.2
  have hk : KK mi (aup mi 58 0 0) E := RR_go h.1 (fun _ _ _ => rfl)
  exact OP.q h (s_X6_commandTime h.1.1 h_i (kc_o hk0)) (s_X7_commandTime h.1.1 h_i (km_o hk)) (fun r q p1 p2 => an_rank hk (fun s => s.2.1) p1 p2)
theorem o_commandBell (h : RS mi mr E) {i : Int} (h_i : -2147483648 ≤ i ∧ i ≤ 2147483647) : OP yX6_commandBell cX6_commandBell 2 1 yX7_commandBell cX7_commandBell 3 2 [iI i] mi mr := by
  have hk0 := h.1.2.2
  have hk : KK mi (aup mi 58 0 0) E := RR_go h.1 (fun _ _ _ => rfl)
  exact OP.q h (s_X6_commandBell h.1.1 h_i (kc_o hk0)) (s_X7_commandBell h.1.1 h_i (km_o hk)) (fun r q p1 p2 => an_rank hk (fun s => s.1) p1 p2)
theorem o_movingHammers (h : RS mi mr E) {t : Int} (h_t : -2147483648 ≤ t ∧ t ≤ 2147483647) : OP yX6_movingHammers cX6_movingHammers 2 2 yX7_movingHammers cX7_movingHammers 4 3 [iI t] mi mr := by
  have hk0 := h.1.2.2
  have hk : KK mi (aup mi 58 0 0) E := RR_go h.1 (fun _ _ _ => rfl)
  exact OP.q h (s_X6_movingHammers h.1.1 h_t (kc_o hk0)) (s_X7_movingHammers h.1.1 h_t (km_B hk) (km_o hk)) (fun r q p1 p2 => by rw [p2, p1, hk.2.1.2.2.2.1, cov_perm hk.2.2.2.2.1.1])
theorem o_patternError (h : RS mi mr E) : OP yX6_patternError cX6_patternError 1 1 yX7_patternError cX7_patternError 1 1 [] mi mr := by
  have hk0 := h.1.2.2
  exact OP.q h (s_X6_patternError h.1.1) (s_X7_patternError h.1.1) (fun r q p1 p2 => by rw [p2, p1]; exact hk0.2.2.2.2.2.2.2.1.2.2.1)
theorem o_patternErrorPosition (h : RS mi mr E) : OP yX6_patternErrorPosition cX6_patternErrorPosition 1 1 yX7_patternErrorPosition cX7_patternErrorPosition 1 1 [] mi mr := by
  have hk0 := h.1.2.2
  exact OP.q h (s_X6_patternErrorPosition h.1.1) (s_X7_patternErrorPosition h.1.1) (fun r q p1 p2 => by rw [p2, p1]; exact hk0.2.2.2.2.2.2.2.1.2.2.2.1)
theorem o_stepBells (h : RS mi mr E) {w : Int} (h_w : -2147483648 ≤ w ∧ w ≤ 2147483647) {k : Int} (h_k : -2147483648 ≤ k ∧ k ≤ 2147483647) : OP yX6_stepBells cX6_stepBells 4 2 yX7_stepBells cX7_stepBells 3 3 [iI w, iI k] mi mr := by
  have hk0 := h.1.2.2
  exact OP.q h (s_X6_stepBells h.1.1 h_w h_k (kc_p hk0)) (s_X7_stepBells h.1.1 h_w h_k (km_pm hk0)) (fun r q p1 p2 => by rw [p2, p1]; exact an_step hk0)
theorem o_patternStrokes (h : RS mi mr E) {w : Int} (h_w : -2147483648 ≤ w ∧ w ≤ 2147483647) : OP yX6_patternStrokes cX6_patternStrokes 3 3 yX7_patternStrokes cX7_patternStrokes 5 3 [iI w] mi mr := by
  have hk0 := h.1.2.2
  have hk : KK mi (aup mi 58 0 0) E := RR_go h.1 (fun _ _ _ => rfl)
  exact OP.q h (s_X6_patternStrokes h.1.1 h_w (kc_n hk0) (kc_p hk0)) (s_X7_patternStrokes h.1.1 h_w (km_B hk) (km_p hk)) (fun r q p1 p2 => by rw [p2, p1]; exact an_pstr hk)
theorem o_entryCount (h : RS mi mr E) : OP yX6_entryCount cX6_entryCount 1 1 yX7_entryCount cX7_entryCount 1 1 [] mi mr := by
  have hk0 := h.1.2.2
  exact OP.q h (s_X6_entryCount h.1.1) (s_X7_entryCount h.1.1) (fun r q p1 p2 => by rw [p2, p1]; exact hk0.2.1.2.2.2.2.1)
theorem o_dueTime (h : RS mi mr E) {i : Int} (h_i : -2147483648 ≤ i ∧ i ≤ 2147483647) : OP yX6_dueTime cX6_dueTime 2 2 yX7_dueTime cX7_dueTime 2 3 [iI i] mi mr := by
  have hk0 := h.1.2.2
  have hk : KK mi (aup mi 58 0 0) E := RR_go h.1 (fun _ _ _ => rfl)
  exact OP.q h (s_X6_dueTime h.1.1 h_i h.1.2.1 (kc_e8 hk0)) (s_X7_dueTime h.1.1 h_i (km_e8 hk)) (fun r q p1 p2 => by rw [p2, p1]; exact if_en hk (fun j0 j1 => (hk.2.2.2.2.2.2.1 i j0 j1).2.1))
theorem o_lastShift (h : RS mi mr E) {i : Int} (h_i : -2147483648 ≤ i ∧ i ≤ 2147483647) : OP yX6_lastShift cX6_lastShift 2 2 yX7_lastShift cX7_lastShift 2 3 [iI i] mi mr := by
  have hk0 := h.1.2.2
  have hk : KK mi (aup mi 58 0 0) E := RR_go h.1 (fun _ _ _ => rfl)
  exact OP.q h (s_X6_lastShift h.1.1 h_i h.1.2.1 (kc_e8 hk0)) (s_X7_lastShift h.1.1 h_i (km_e8 hk)) (fun r q p1 p2 => by rw [p2, p1]; exact if_en hk (fun j0 j1 => (hk.2.2.2.2.2.2.1 i j0 j1).2.2.2.2.2))
theorem o_failureCount (h : RS mi mr E) : OP yX6_failureCount cX6_failureCount 1 1 yX7_failureCount cX7_failureCount 1 1 [] mi mr := by
  have hk0 := h.1.2.2
  exact OP.q h (s_X6_failureCount h.1.1) (s_X7_failureCount h.1.1) (fun r q p1 p2 => by rw [p2, p1]; exact hk0.2.1.2.2.2.2.2)
theorem o_amplitude (h : RS mi mr E) {b : Int} (h_b : -2147483648 ≤ b ∧ b ≤ 2147483647) : OP yX6_amplitude cX6_amplitude 2 2 yX7_amplitude cX7_amplitude 2 3 [iI b] mi mr := by
  have hk0 := h.1.2.2
  exact OP.q h (s_X6_amplitude h.1.1 h_b (kc_n hk0)) (s_X7_amplitude h.1.1 h_b (km_n hk0)) (fun r q p1 p2 => by rw [p2, p1]; exact an_amplitude hk0)
theorem o_nextTurn (h : RS mi mr E) {b : Int} (h_b : -2147483648 ≤ b ∧ b ≤ 2147483647) : OP yX6_nextTurn cX6_nextTurn 2 2 yX7_nextTurn cX7_nextTurn 2 3 [iI b] mi mr := by
  have hk0 := h.1.2.2
  exact OP.q h (s_X6_nextTurn h.1.1 h_b (kc_n hk0)) (s_X7_nextTurn h.1.1 h_b (km_n hk0)) (fun r q p1 p2 => by rw [p2, p1]; exact an_nextTurn hk0)
theorem o_force (h : RS mi mr E) {b : Int} (h_b : -2147483648 ≤ b ∧ b ≤ 2147483647) : OP yX6_force cX6_force 2 2 yX7_force cX7_force 2 3 [iI b] mi mr := by
  have hk0 := h.1.2.2
  have hk : KK mi (aup mi 58 0 0) E := RR_go h.1 (fun _ _ _ => rfl)
  exact OP.q h (s_X6_force h.1.1 h_b (kc_B hk0)) (s_X7_force h.1.1 h_b (km_B hk) (km_W hk)) (fun r q p1 p2 => by rw [p2, p1]; exact an_force hk)
end OPL
