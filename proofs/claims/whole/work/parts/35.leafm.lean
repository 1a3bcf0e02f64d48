-- part 35: the model: its leaves (printed by wip/whole/gen/p35.py)
theorem s_X7_isIn {mr : aR} (hR : Rok mr) {mi : aM} {x l u : Int} (hx : -9000000000 ≤ x ∧ x ≤ 9000000000) (hl : -9000000000 ≤ l ∧ l ≤ 9000000000) (hu : -9000000000 ≤ u ∧ u ≤ 9000000000) : SPg yX7_isIn cX7_isIn 6 (some .boolean) 1 [lL x, lL l, lL u] mi mr (Pp mi mr (fun r => (r = 1 ∧ l ≤ x ∧ x ≤ u) ∨ (r = 0 ∧ (x < l ∨ u < x)))) := by
  refine SPg.boolp rfl (by decide +kernel) (Nat.le_of_ble_eq_true rfl) (fun r h => by omega) ?_
  show AWm RX7 cX7_isIn 6 1 _ 0 [(0, lL x), (2, lL l), (4, lL u)] [] mi mr
  refine aw_lload_n (i := 0) (q := 0) dX7_isIn_0 rfl rfl ?_
  refine aw_lload_n (i := 2) (q := 1) dX7_isIn_1 rfl rfl ?_
  refine aw_lcmp dX7_isIn_2 (by omega) (by omega) ?_
  refine aw_if_lt (tgt := 17) dX7_isIn_3 (by decide) (by split <;> first | omega | (split <;> omega)) (fun c3 => ?_) (fun c3 => ?_)
  · have c3 : x < l := by revert c3; split <;> first | omega | (split <;> omega)
    refine aw_iconst dX7_isIn_17 ?_
    exact aw_iret ⟨_, rfl, rfl, rfl, rfl, (by omega)⟩ (Nat.le_refl _) (Nat.le_refl _) dX7_isIn_18
  · have c3 : x ≥ l := by revert c3; split <;> first | omega | (split <;> omega)
    refine aw_lload_n (i := 0) (q := 0) dX7_isIn_6 rfl rfl ?_
    refine aw_lload (i := 4) (q := 2) dX7_isIn_7 rfl ?_
    refine aw_lcmp dX7_isIn_9 (by omega) (by omega) ?_
    refine aw_if_gt (tgt := 17) dX7_isIn_10 (by decide) (by split <;> first | omega | (split <;> omega)) (fun c10 => ?_) (fun c10 => ?_)
    · have c10 : x > u := by revert c10; split <;> first | omega | (split <;> omega)
      refine aw_iconst dX7_isIn_17 ?_
      exact aw_iret ⟨_, rfl, rfl, rfl, rfl, (by omega)⟩ (Nat.le_refl _) (Nat.le_refl _) dX7_isIn_18
    · have c10 : x ≤ u := by revert c10; split <;> first | omega | (split <;> omega)
      refine aw_iconst dX7_isIn_13 ?_
      refine aw_goto (tgt := 18) dX7_isIn_14 (by decide) ?_
      exact aw_iret ⟨_, rfl, rfl, rfl, rfl, (by omega)⟩ (Nat.le_refl _) (Nat.le_refl _) dX7_isIn_18
