-- part 51: the model: shake, greatestShake (printed by wip/whole/gen/p51.py)
def fr93 (mi m : aM) : Prop := ∀ (x : Nat) (j : Int), x ≠ 93 → x ≠ 94 → m x j = mi x j
theorem t_shake {mr : aR} (hR : Rok mr) {mi : aM} {k : Int} (h_k : -2147483648 ≤ k ∧ k ≤ 2147483647) (hB : mB mi) (hW : mW mi) (hS : ∀ i : Int, 0 ≤ i → i < mi 58 6 → mi 90 i = 1 ∨ mi 90 i = -1 ∨ mi 86 i = 0) : AWm RX7 cX7_shake 2 3 (Pi mr (fun r m => fr93 mi m ∧ r = if 0 ≤ k ∧ k ≤ 600 then shM mi k.toNat (mi 58 6).toNat + 100000 else -3)) 5 [(0, .ref 58), (1, iI k)] [] mi mr := by
  have hn := hB.1
  refine aw_iload_n (i := 1) (q := 1) dX7_shake_5 rfl rfl ?_
  refine aw_i2l dX7_shake_6 (by first | assumption | omega) ?_
  refine aw_lconst (x := 0) dX7_shake_7 rfl ?_
  refine aw_ldc2 (x := 600) coX7_333 rfl dX7_shake_8 ?_
  refine aw_cSp (As := [lL k, lL 0, lL 600]) (st := []) clX7_135 (s_X7_isIn hR (by omega) (by omega) (by omega)) rfl rfl (Nat.le_of_ble_eq_true rfl) (by decide) (by decide) (Nat.le_refl _) (Nat.le_refl _) dX7_shake_11 (fun v11 hv11 => ?_)
  refine aw_if_ne (tgt := 20) dX7_shake_14 (by decide) (by first | assumption | omega) (fun c14 => ?_) (fun c14 => ?_)
  · refine aw_aload_n (i := 0) (q := 0) dX7_shake_20 rfl rfl ?_
    refine aw_iload_n (i := 1) (q := 1) dX7_shake_21 rfl rfl ?_
    refine aw_cVv (As := [iI k]) (st := []) clX7_321 (s_X7_laysShake hR hB hW hS (by omega)) SH_58 rfl (by decide) rfl rfl (Nat.le_of_ble_eq_true rfl) (by decide) (by decide) (Nat.le_refl _) (Nat.le_refl _) dX7_shake_22 (fun m1 hm1 => ?_)
    obtain ⟨hm1a, hm1b⟩ := hm1
    have hrg := fun k : Nat => shM_rng hB hW hS k (mi 58 6).toNat (by omega)
    have hr9 := hm1b k (by omega) (Int.le_refl _)
    have hr8 := hrg k.toNat
    refine aw_ldc (x := 100000) coX7_196 rfl dX7_shake_25 ?_
    refine aw_aload_n (i := 0) (q := 0) dX7_shake_27 rfl rfl ?_
    refine aw_getR (r := 93) flX7_120 SH_58 (by decide) rfl (rk_58_51 hR) dX7_shake_28 ?_
    refine aw_iload_n (i := 1) (q := 1) dX7_shake_31 rfl rfl ?_
    refine aw_ialdv (x := m1 93 k) SH_93 (by decide) ⟨by omega, by omega⟩ rfl dX7_shake_32 (fun r32 => ?_)
    refine aw_iadd dX7_shake_33 ?_
    exact aw_iret ⟨_, rfl, rfl, rfl, (fun x j a _ => hm1a x j a), by rw [if_pos (by omega)]; omega⟩ (Nat.le_refl _) (Nat.le_refl _) dX7_shake_34
  · refine aw_bipush (x := -3) dX7_shake_17 rfl ?_
    exact aw_iret ⟨_, rfl, rfl, rfl, (fun _ _ _ _ => rfl), by rw [if_neg (by omega)]⟩ (Nat.le_refl _) (Nat.le_refl _) dX7_shake_19
theorem s_X7_shake {mr : aR} (hR : Rok mr) {mi : aM} {k : Int} (h_k : -2147483648 ≤ k ∧ k ≤ 2147483647) (hB : mB (aup mi 58 0 0)) (hW : mW (aup mi 58 0 0)) (hS : ∀ i : Int, 0 ≤ i → i < (aup mi 58 0 0) 58 6 → (aup mi 58 0 0) 90 i = 1 ∨ (aup mi 58 0 0) 90 i = -1 ∨ (aup mi 58 0 0) 86 i = 0) : SPg yX7_shake cX7_shake 2 (some .int) 3 [.ref 58, iI k] mi mr (Pi mr (fun r m => fr93 (aup mi 58 0 0) m ∧ r = if 0 ≤ k ∧ k ≤ 600 then shM (aup mi 58 0 0) k.toNat ((aup mi 58 0 0) 58 6).toNat + 100000 else -3)) := by
  refine SPg.int rfl (by decide +kernel) (Nat.le_of_ble_eq_true rfl) ?_
  show AWm RX7 cX7_shake 2 3 _ 0 [(0, .ref 58), (1, iI k)] [] mi mr
  refine aw_aload_n (i := 0) (q := 0) dX7_shake_0 rfl rfl ?_
  refine aw_iconst dX7_shake_1 ?_
  refine aw_putIk 0 flX7_1 SH_58 (by decide) rfl rfl rfl (by decide) dX7_shake_2 ?_
  exact t_shake (mi := aup mi 58 0 0) hR h_k hB hW hS
