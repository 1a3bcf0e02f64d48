-- part 45: the model: dropsEntry, removeEntry (printed by wip/whole/gen/p45.py)
/-- the entries from i on are moved down, up to z -/
def deI (mi m : aM) (i z : Int) : Prop := m 58 42 = mi 58 42 - 1 ∧ (∀ (x : Nat) (j : Int), (x < 80 ∨ 85 < x) → (x ≠ 58 ∨ j ≠ 42) → m x j = mi x j) ∧ ∀ (a : Nat) (j : Int), 80 ≤ a → a ≤ 85 → m a j = if i ≤ j ∧ j < z then mi a (j + 1) else mi a j
def mvE (m : aM) (z : Int) : aM := aup (aup (aup (aup (aup (aup m 80 z (m 80 (z + 1))) 81 z (m 81 (z + 1))) 82 z (m 82 (z + 1))) 83 z (m 83 (z + 1))) 84 z (m 84 (z + 1))) 85 z (m 85 (z + 1))
theorem mvE_o {m : aM} {z : Int} {x : Nat} {j : Int} (h : (x < 80 ∨ 85 < x) ∨ j ≠ z) : mvE m z x j = m x j := by
  unfold mvE
  rcases h with h | h
  · rw [aup_a (by omega), aup_a (by omega), aup_a (by omega), aup_a (by omega), aup_a (by omega), aup_a (by omega)]
  · rw [aup_k h, aup_k h, aup_k h, aup_k h, aup_k h, aup_k h]
theorem mvE_z {m : aM} {z : Int} {a : Nat} (h : 80 ≤ a ∧ a ≤ 85) : mvE m z a z = m a (z + 1) := by
  unfold mvE
  rcases (show a = 80 ∨ a = 81 ∨ a = 82 ∨ a = 83 ∨ a = 84 ∨ a = 85 by omega) with rfl | rfl | rfl | rfl | rfl | rfl <;> simp [aup]
theorem deI_step {mi m : aM} {i z : Int} (h : deI mi m i z) (hz : i ≤ z) : deI mi (mvE m z) i (z + 1) := by
  obtain ⟨h1, h2, h3⟩ := h
  refine ⟨by rw [mvE_o (by omega)]; exact h1, fun x j a b => by rw [mvE_o (Or.inl a)]; exact h2 x j a b, fun a j a0 a1 => ?_⟩
  by_cases q : j = z
  · subst q
    rw [mvE_z ⟨a0, a1⟩, h3 a (j + 1) a0 a1, if_neg (by omega), if_pos (by omega)]
  · rw [mvE_o (Or.inr q), h3 a j a0 a1]
    by_cases q2 : i ≤ j ∧ j < z
    · rw [if_pos q2, if_pos (by omega)]
    · rw [if_neg q2, if_neg (by omega)]
theorem l_mdrop {mr : aR} (hR : Rok mr) {mi : aM} {i : Int} (hi : 0 ≤ i ∧ i < mi 58 42) (h8 : mi 58 42 ≤ 8) : ∀ (n : Nat) (m : aM) (z : Int), deI mi m i z → (i ≤ z ∧ z ≤ mi 58 42 - 1) → mi 58 42 - z < n → AWm RX7 cX7_dropsEntry 3 1 (Pv mr (fun m => deI mi m i (mi 58 42 - 1))) 12 [(0, .ref 58), (1, iI i), (2, iI z)] [] m mr := by
  intro n
  induction n with
  | zero => intro m z hd h2 h3; omega
  | succ n ih =>
    intro m z hd h2 h3
    have hd1 := hd.1
    refine aw_iload_n (i := 2) (q := 2) dX7_dropsEntry_12 rfl rfl ?_
    refine aw_aload_n (i := 0) (q := 0) dX7_dropsEntry_13 rfl rfl ?_
    refine aw_getIk (x := m 58 42) 42 flX7_277 SH_58 (by decide) rfl rfl rfl dX7_dropsEntry_14 (fun r14 => ?_)
    refine aw_icmp_ge (tgt := 110) dX7_dropsEntry_17 (by decide) (by first | assumption | omega) (by first | assumption | omega) (fun c17 => ?_) (fun c17 => ?_)
    · exact aw_vret ⟨rfl, rfl, rfl, ((show z = mi 58 42 - 1 by omega) ▸ hd)⟩ (Nat.le_refl _) (Nat.le_refl _) dX7_dropsEntry_110
    · refine aw_aload_n (i := 0) (q := 0) dX7_dropsEntry_20 rfl rfl ?_
      refine aw_getR (r := 80) flX7_81 SH_58 (by decide) rfl (rk_58_36 hR) dX7_dropsEntry_21 ?_
      refine aw_iload_n (i := 2) (q := 2) dX7_dropsEntry_24 rfl rfl ?_
      refine aw_aload_n (i := 0) (q := 0) dX7_dropsEntry_25 rfl rfl ?_
      refine aw_getR (r := 80) flX7_81 SH_58 (by decide) rfl (rk_58_36 hR) dX7_dropsEntry_26 ?_
      refine aw_iload_n (i := 2) (q := 2) dX7_dropsEntry_29 rfl rfl ?_
      refine aw_iconst dX7_dropsEntry_30 ?_
      refine aw_iadd dX7_dropsEntry_31 ?_
      refine aw_ialdv (x := m 80 (z + 1)) SH_80 (by decide) ⟨by omega, by omega⟩ rfl dX7_dropsEntry_32 (fun r32 => ?_)
      refine aw_iast SH_80 (by decide) ⟨by omega, by omega⟩ (by first | assumption | omega) dX7_dropsEntry_33 ?_
      refine aw_aload_n (i := 0) (q := 0) dX7_dropsEntry_34 rfl rfl ?_
      refine aw_getR (r := 81) flX7_84 SH_58 (by decide) rfl (rk_58_37 hR) dX7_dropsEntry_35 ?_
      refine aw_iload_n (i := 2) (q := 2) dX7_dropsEntry_38 rfl rfl ?_
      refine aw_aload_n (i := 0) (q := 0) dX7_dropsEntry_39 rfl rfl ?_
      refine aw_getR (r := 81) flX7_84 SH_58 (by decide) rfl (rk_58_37 hR) dX7_dropsEntry_40 ?_
      refine aw_iload_n (i := 2) (q := 2) dX7_dropsEntry_43 rfl rfl ?_
      refine aw_iconst dX7_dropsEntry_44 ?_
      refine aw_iadd dX7_dropsEntry_45 ?_
      refine aw_ialdv (x := m 81 (z + 1)) SH_81 (by decide) ⟨by omega, by omega⟩ (by (rw [aup_a (by decide)]) <;> rfl) dX7_dropsEntry_46 (fun r46 => ?_)
      refine aw_iast SH_81 (by decide) ⟨by omega, by omega⟩ (by first | assumption | omega) dX7_dropsEntry_47 ?_
      refine aw_aload_n (i := 0) (q := 0) dX7_dropsEntry_48 rfl rfl ?_
      refine aw_getR (r := 82) flX7_87 SH_58 (by decide) rfl (rk_58_38 hR) dX7_dropsEntry_49 ?_
      refine aw_iload_n (i := 2) (q := 2) dX7_dropsEntry_52 rfl rfl ?_
      refine aw_aload_n (i := 0) (q := 0) dX7_dropsEntry_53 rfl rfl ?_
      refine aw_getR (r := 82) flX7_87 SH_58 (by decide) rfl (rk_58_38 hR) dX7_dropsEntry_54 ?_
      refine aw_iload_n (i := 2) (q := 2) dX7_dropsEntry_57 rfl rfl ?_
      refine aw_iconst dX7_dropsEntry_58 ?_
      refine aw_iadd dX7_dropsEntry_59 ?_
      refine aw_ialdv (x := m 82 (z + 1)) SH_82 (by decide) ⟨by omega, by omega⟩ (by (rw [aup_a (by decide), aup_a (by decide)]) <;> rfl) dX7_dropsEntry_60 (fun r60 => ?_)
      refine aw_iast SH_82 (by decide) ⟨by omega, by omega⟩ (by first | assumption | omega) dX7_dropsEntry_61 ?_
      refine aw_aload_n (i := 0) (q := 0) dX7_dropsEntry_62 rfl rfl ?_
      refine aw_getR (r := 83) flX7_90 SH_58 (by decide) rfl (rk_58_39 hR) dX7_dropsEntry_63 ?_
      refine aw_iload_n (i := 2) (q := 2) dX7_dropsEntry_66 rfl rfl ?_
      refine aw_aload_n (i := 0) (q := 0) dX7_dropsEntry_67 rfl rfl ?_
      refine aw_getR (r := 83) flX7_90 SH_58 (by decide) rfl (rk_58_39 hR) dX7_dropsEntry_68 ?_
      refine aw_iload_n (i := 2) (q := 2) dX7_dropsEntry_71 rfl rfl ?_
      refine aw_iconst dX7_dropsEntry_72 ?_
      refine aw_iadd dX7_dropsEntry_73 ?_
      refine aw_ialdv (x := m 83 (z + 1)) SH_83 (by decide) ⟨by omega, by omega⟩ (by (rw [aup_a (by decide), aup_a (by decide), aup_a (by decide)]) <;> rfl) dX7_dropsEntry_74 (fun r74 => ?_)
      refine aw_iast SH_83 (by decide) ⟨by omega, by omega⟩ (by first | assumption | omega) dX7_dropsEntry_75 ?_
      refine aw_aload_n (i := 0) (q := 0) dX7_dropsEntry_76 rfl rfl ?_
      refine aw_getR (r := 84) flX7_93 SH_58 (by decide) rfl (rk_58_40 hR) dX7_dropsEntry_77 ?_
      refine aw_iload_n (i := 2) (q := 2) dX7_dropsEntry_80 rfl rfl ?_
      refine aw_aload_n (i := 0) (q := 0) dX7_dropsEntry_81 rfl rfl ?_
      refine aw_getR (r := 84) flX7_93 SH_58 (by decide) rfl (rk_58_40 hR) dX7_dropsEntry_82 ?_
      refine aw_iload_n (i := 2) (q := 2) dX7_dropsEntry_85 rfl rfl ?_
      refine aw_iconst dX7_dropsEntry_86 ?_
      refine aw_iadd dX7_dropsEntry_87 ?_
      refine aw_ialdv (x := m 84 (z + 1)) SH_84 (by decide) ⟨by omega, by omega⟩ (by (rw [aup_a (by decide), aup_a (by decide), aup_a (by decide), aup_a (by decide)]) <;> rfl) dX7_dropsEntry_88 (fun r88 => ?_)
      refine aw_iast SH_84 (by decide) ⟨by omega, by omega⟩ (by first | assumption | omega) dX7_dropsEntry_89 ?_
      refine aw_aload_n (i := 0) (q := 0) dX7_dropsEntry_90 rfl rfl ?_
      refine aw_getR (r := 85) flX7_96 SH_58 (by decide) rfl (rk_58_41 hR) dX7_dropsEntry_91 ?_
      refine aw_iload_n (i := 2) (q := 2) dX7_dropsEntry_94 rfl rfl ?_
      refine aw_aload_n (i := 0) (q := 0) dX7_dropsEntry_95 rfl rfl ?_
      refine aw_getR (r := 85) flX7_96 SH_58 (by decide) rfl (rk_58_41 hR) dX7_dropsEntry_96 ?_
      refine aw_iload_n (i := 2) (q := 2) dX7_dropsEntry_99 rfl rfl ?_
      refine aw_iconst dX7_dropsEntry_100 ?_
      refine aw_iadd dX7_dropsEntry_101 ?_
      refine aw_ialdv (x := m 85 (z + 1)) SH_85 (by decide) ⟨by omega, by omega⟩ (by (rw [aup_a (by decide), aup_a (by decide), aup_a (by decide), aup_a (by decide), aup_a (by decide)]) <;> rfl) dX7_dropsEntry_102 (fun r102 => ?_)
      refine aw_iast SH_85 (by decide) ⟨by omega, by omega⟩ (by first | assumption | omega) dX7_dropsEntry_103 ?_
      refine aw_iinc (i := 2) (q := 2) (x := z) (lv' := [(0, .ref 58), (1, iI i), (2, iI (z + 1))]) [1, 2, 0] dX7_dropsEntry_104 rfl (by decide) rfl ?_
      refine aw_goto (tgt := 12) dX7_dropsEntry_107 (by decide) ?_
      exact ih _ (z + 1) (deI_step hd h2.1) (by omega) (by omega)
theorem s_X7_dropsEntry {mr : aR} (hR : Rok mr) {mi : aM} {i : Int} (hi : 0 ≤ i ∧ i < mi 58 42) (h8 : mi 58 42 ≤ 8) : SPg yX7_dropsEntry cX7_dropsEntry 3 none 1 [.ref 58, iI i] mi mr (Pv mr (fun m => deI mi m i (mi 58 42 - 1))) := by
  refine SPg.void rfl (by decide +kernel) (Nat.le_of_ble_eq_true rfl) ?_
  show AWm RX7 cX7_dropsEntry 3 1 _ 0 [(0, .ref 58), (1, iI i)] [] mi mr
  refine aw_aload_n (i := 0) (q := 0) dX7_dropsEntry_0 rfl rfl ?_
  refine aw_dup dX7_dropsEntry_1 rfl ?_
  refine aw_getIk (x := mi 58 42) 42 flX7_277 SH_58 (by decide) rfl rfl rfl dX7_dropsEntry_2 (fun r2 => ?_)
  refine aw_iconst dX7_dropsEntry_5 ?_
  refine aw_isub dX7_dropsEntry_6 ?_
  refine aw_putIk 42 flX7_277 SH_58 (by decide) rfl rfl rfl (by first | assumption | omega) dX7_dropsEntry_7 ?_
  refine aw_iload_n (i := 1) (q := 1) dX7_dropsEntry_10 rfl rfl ?_
  refine aw_istore_n (i := 2) (lv' := [(0, .ref 58), (1, iI i), (2, iI i)]) [1, 2, 0] dX7_dropsEntry_11 rfl (by decide) rfl ?_
  exact l_mdrop hR hi h8 ((mi 58 42).toNat + 1) _ i ⟨aup_eq _ _ _ _, fun x j a b => (by rcases b with b | b; (exact aup_a b); (exact aup_k b)), fun a j a0 a1 => by rw [aup_a (by omega), if_neg (by omega)]⟩ (by omega) (by omega)
theorem t_removeEntry {mr : aR} (hR : Rok mr) {mi : aM} {i : Int} (h_i : -2147483648 ≤ i ∧ i ≤ 2147483647) (h8 : 0 ≤ mi 58 42 ∧ mi 58 42 ≤ 8) : AWm RX7 cX7_removeEntry 2 3 (Pi mr (fun r m => (¬ (0 ≤ i ∧ i < mi 58 42) ∧ r = -2 ∧ m = mi) ∨ ((0 ≤ i ∧ i < mi 58 42) ∧ r = mi 58 42 - 1 ∧ deI mi m i (mi 58 42 - 1)))) 5 [(0, .ref 58), (1, iI i)] [] mi mr := by
  refine aw_aload_n (i := 0) (q := 0) dX7_removeEntry_5 rfl rfl ?_
  refine aw_iload_n (i := 1) (q := 1) dX7_removeEntry_6 rfl rfl ?_
  refine aw_cVp (As := [iI i]) (st := []) clX7_282 (s_X7_isEntry hR (by omega) (by first | omega | (rw [aup_k (a := 58) (x := 58) (j := 42) (by decide)]; omega))) SH_58 rfl (by decide) rfl rfl (Nat.le_of_ble_eq_true rfl) (by decide) (by decide) (Nat.le_refl _) (Nat.le_refl _) dX7_removeEntry_7 (fun v7 hv7 => ?_)
  try rw [aup_k (a := 58) (x := 58) (j := 42) (by decide)] at hv7
  refine aw_if_ne (tgt := 16) dX7_removeEntry_10 (by decide) (by first | assumption | omega) (fun c10 => ?_) (fun c10 => ?_)
  · refine aw_aload_n (i := 0) (q := 0) dX7_removeEntry_16 rfl rfl ?_
    refine aw_iload_n (i := 1) (q := 1) dX7_removeEntry_17 rfl rfl ?_
    refine aw_cVv (As := [iI i]) (st := []) clX7_285 (s_X7_dropsEntry hR ⟨by omega, by omega⟩ (by omega)) SH_58 rfl (by decide) rfl rfl (Nat.le_of_ble_eq_true rfl) (by decide) (by decide) (Nat.le_refl _) (Nat.le_refl _) dX7_removeEntry_18 (fun m1 hm1 => ?_)
    have e42 := hm1.1
    refine aw_aload_n (i := 0) (q := 0) dX7_removeEntry_21 rfl rfl ?_
    refine aw_getIk (x := m1 58 42) 42 flX7_277 SH_58 (by decide) rfl rfl rfl dX7_removeEntry_22 (fun r22 => ?_)
    exact aw_iret ⟨_, rfl, rfl, rfl, Or.inr ⟨⟨by omega, by omega⟩, by omega, hm1⟩⟩ (Nat.le_refl _) (Nat.le_refl _) dX7_removeEntry_25
  · refine aw_bipush (x := -2) dX7_removeEntry_13 rfl ?_
    exact aw_iret ⟨_, rfl, rfl, rfl, Or.inl ⟨by omega, rfl, rfl⟩⟩ (Nat.le_refl _) (Nat.le_refl _) dX7_removeEntry_15
theorem s_X7_removeEntry {mr : aR} (hR : Rok mr) {mi : aM} {i : Int} (h_i : -2147483648 ≤ i ∧ i ≤ 2147483647) (h8 : 0 ≤ (aup mi 58 0 0) 58 42 ∧ (aup mi 58 0 0) 58 42 ≤ 8) : SPg yX7_removeEntry cX7_removeEntry 2 (some .int) 3 [.ref 58, iI i] mi mr (Pi mr (fun r m => (¬ (0 ≤ i ∧ i < (aup mi 58 0 0) 58 42) ∧ r = -2 ∧ m = (aup mi 58 0 0)) ∨ ((0 ≤ i ∧ i < (aup mi 58 0 0) 58 42) ∧ r = (aup mi 58 0 0) 58 42 - 1 ∧ deI (aup mi 58 0 0) m i ((aup mi 58 0 0) 58 42 - 1)))) := by
  refine SPg.int rfl (by decide +kernel) (Nat.le_of_ble_eq_true rfl) ?_
  show AWm RX7 cX7_removeEntry 2 3 _ 0 [(0, .ref 58), (1, iI i)] [] mi mr
  refine aw_aload_n (i := 0) (q := 0) dX7_removeEntry_0 rfl rfl ?_
  refine aw_iconst dX7_removeEntry_1 ?_
  refine aw_putIk 0 flX7_1 SH_58 (by decide) rfl rfl rfl (by decide) dX7_removeEntry_2 ?_
  exact t_removeEntry (mi := aup mi 58 0 0) hR h_i h8
