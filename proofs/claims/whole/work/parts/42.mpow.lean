-- part 42: the model: movesAt, powerNeeded (printed by wip/whole/gen/p42.py)
theorem l_mov2 {mr : aR} (hR : Rok mr) {mi : aM} {w s x : Int} (hB : mB mi) (hp : pM mi) (hw : 0 ≤ w ∧ w < 5) (hs : 1 ≤ s ∧ s ≤ 200) (hx : -100 ≤ x ∧ x ≤ 40000) {z g0 : Int} {i : Nat} (hz : z = (i : Int)) (hzr : 0 ≤ z ∧ z < mi 73 w) (hg0 : g0 = cnK (fun k => mi 72 (100 * w + k)) (dM mi) s x (mi 58 6).toNat i) (hg9 : 0 ≤ g0 ∧ g0 ≤ 1200) (kx : ∀ (g : Int), g = cnK (fun k => mi 72 (100 * w + k)) (dM mi) s x (mi 58 6).toNat (i + 1) → AWm RX7 cX7_movesAt 7 2 (Pp mi mr (fun r => r = cnK (fun k => mi 72 (100 * w + k)) (dM mi) s x (mi 58 6).toNat (mi 73 w).toNat)) 6 [(0, .ref 58), (1, iI w), (2, iI s), (3, iI x), (4, iI g), (5, iI (z + 1))] [] mi mr) : ∀ (n : Nat) (g y : Int) (j : Nat), g = g0 + cnJ (fun k => mi 72 (100 * w + k)) (dM mi) s x z j → y = (j : Int) → (0 ≤ y ∧ y ≤ mi 58 6) → mi 58 6 - y < n → AWm RX7 cX7_movesAt 7 2 (Pp mi mr (fun r => r = cnK (fun k => mi 72 (100 * w + k)) (dM mi) s x (mi 58 6).toNat (mi 73 w).toNat)) 20 [(0, .ref 58), (1, iI w), (2, iI s), (3, iI x), (4, iI g), (5, iI z), (6, iI y)] [] mi mr := by
  intro n
  induction n with
  | zero => intro g y j hg hyj h2 h3; omega
  | succ n ih =>
    intro g y j hg hyj h2 h3
    have hn := hB.1
    have hpw := (hp w hw.1 hw.2).1
    have hms := mul_lt (z := z) (s := s) (by omega) hs
    have hjr := cnJ_rng (fun k => mi 72 (100 * w + k)) (dM mi) s x z j
    refine aw_iload (i := 6) (q := 6) dX7_movesAt_20 rfl ?_
    refine aw_aload_n (i := 0) (q := 0) dX7_movesAt_22 rfl rfl ?_
    refine aw_getIk (x := mi 58 6) 6 flX7_132 SH_58 (by decide) rfl rfl rfl dX7_movesAt_23 (fun r23 => ?_)
    refine aw_icmp_ge (tgt := 94) dX7_movesAt_26 (by decide) (by first | assumption | omega) (by first | assumption | omega) (fun c26 => ?_) (fun c26 => ?_)
    · refine aw_sub (lv' := [(0, .ref 58), (1, iI w), (2, iI s), (3, iI x), (4, iI g), (5, iI z)]) [0, 1, 2, 3, 4, 5] rfl ?_
      refine aw_iinc (i := 5) (q := 5) (x := z) (lv' := [(0, .ref 58), (1, iI w), (2, iI s), (3, iI x), (4, iI g), (5, iI (z + 1))]) [1, 2, 3, 4, 5, 0] dX7_movesAt_94 rfl (by decide) rfl ?_
      refine aw_goto (tgt := 6) dX7_movesAt_97 (by decide) ?_
      exact kx g (by rw [hg, hg0, show j = (mi 58 6).toNat by omega, hz]; rfl)
    · have hst9 := (hp w hw.1 hw.2).2 z (by omega) (by omega)
      have k59 := (hB.2.2 y (by omega) (by omega)).1
      refine aw_iload (i := 4) (q := 4) dX7_movesAt_29 rfl ?_
      refine aw_aload_n (i := 0) (q := 0) dX7_movesAt_31 rfl rfl ?_
      refine aw_getR (r := 72) flX7_54 SH_58 (by decide) rfl (rk_58_20 hR) dX7_movesAt_32 ?_
      refine aw_bipush (x := 100) dX7_movesAt_35 rfl ?_
      refine aw_iload_n (i := 1) (q := 1) dX7_movesAt_37 rfl rfl ?_
      refine aw_imul dX7_movesAt_38 ?_
      refine aw_iload (i := 5) (q := 5) dX7_movesAt_39 rfl ?_
      refine aw_iadd dX7_movesAt_41 ?_
      refine aw_ialdv (x := mi 72 ((100 * w) + z)) SH_72 (by decide) ⟨by omega, by omega⟩ rfl dX7_movesAt_42 (fun r42 => ?_)
      refine aw_iload (i := 6) (q := 6) dX7_movesAt_43 rfl ?_
      refine aw_ishr (z := (((mi 72 ((100 * w) + z)).toNat / 2 ^ (y).toNat : Nat) : Int)) dX7_movesAt_45 (bt_shr (by omega) (by omega)) ?_
      refine aw_iconst dX7_movesAt_46 ?_
      obtain ⟨bw47, hbw47, hbt47⟩ := bit_w (mi 72 ((100 * w) + z)) y
      refine aw_iand (z := bw47) dX7_movesAt_47 (by rw [hbw47]; exact bt_and (shr_rng (by omega)) (by decide)) ?_
      refine aw_iconst dX7_movesAt_48 ?_
      refine aw_icmp_ne (tgt := 84) dX7_movesAt_49 (by decide) (by first | assumption | omega) (by decide) (fun c49 => ?_) (fun c49 => ?_)
      · refine aw_iconst dX7_movesAt_84 ?_
        refine aw_iadd dX7_movesAt_85 ?_
        refine aw_istore (i := 4) (lv' := [(0, .ref 58), (1, iI w), (2, iI s), (3, iI x), (4, iI (g + 0)), (5, iI z), (6, iI y)]) [1, 2, 3, 4, 0, 5, 6] dX7_movesAt_86 (by decide) rfl ?_
        refine aw_iinc (i := 6) (q := 6) (x := y) (lv' := [(0, .ref 58), (1, iI w), (2, iI s), (3, iI x), (4, iI (g + 0)), (5, iI z), (6, iI (y + 1))]) [1, 2, 3, 4, 5, 6, 0] dX7_movesAt_88 rfl (by decide) rfl ?_
        refine aw_goto (tgt := 20) dX7_movesAt_91 (by decide) ?_
        have hsj : cnJ (fun k => mi 72 (100 * w + k)) (dM mi) s x z (j + 1) = cnJ (fun k => mi 72 (100 * w + k)) (dM mi) s x z j + pick (bit (mi 72 (100 * w + z)) y ∧ z * s - mi 59 y ≤ x ∧ x < z * s) 1 0 := by rw [hyj]; rfl
        exact ih (g + 0) (y + 1) (j + 1) (by rw [hsj]; first | (rw [pick_pos ⟨by rcases hbt47 with ⟨q, -⟩ | ⟨-, q⟩; (exact q); (omega), by omega, by omega⟩]; omega) | (rw [pick_neg (fun q => by rcases hbt47 with ⟨-, q9⟩ | ⟨q9, -⟩; (omega); (exact q9 q.1))]; omega)) (by omega) (by omega) (by omega)
      · refine aw_iload_n (i := 3) (q := 3) dX7_movesAt_52 rfl rfl ?_
        refine aw_i2l dX7_movesAt_53 (by first | assumption | omega) ?_
        refine aw_iload (i := 5) (q := 5) dX7_movesAt_54 rfl ?_
        refine aw_iload_n (i := 2) (q := 2) dX7_movesAt_56 rfl rfl ?_
        refine aw_imul dX7_movesAt_57 ?_
        refine aw_aload_n (i := 0) (q := 0) dX7_movesAt_58 rfl rfl ?_
        refine aw_getR (r := 59) flX7_13 SH_58 (by decide) rfl (rk_58_1 hR) dX7_movesAt_59 ?_
        refine aw_iload (i := 6) (q := 6) dX7_movesAt_62 rfl ?_
        refine aw_ialdv (x := mi 59 y) SH_59 (by decide) ⟨by omega, by omega⟩ rfl dX7_movesAt_64 (fun r64 => ?_)
        refine aw_isub dX7_movesAt_65 ?_
        refine aw_i2l dX7_movesAt_66 (by first | assumption | omega) ?_
        refine aw_iload (i := 5) (q := 5) dX7_movesAt_67 rfl ?_
        refine aw_iload_n (i := 2) (q := 2) dX7_movesAt_69 rfl rfl ?_
        refine aw_imul dX7_movesAt_70 ?_
        refine aw_iconst dX7_movesAt_71 ?_
        refine aw_isub dX7_movesAt_72 ?_
        refine aw_i2l dX7_movesAt_73 (by first | assumption | omega) ?_
        refine aw_cSp (As := [lL x, lL ((z * s) - (mi 59 y)), lL ((z * s) - 1)]) (st := [iI g]) clX7_135 (s_X7_isIn hR (by omega) (by omega) (by omega)) rfl rfl (Nat.le_of_ble_eq_true rfl) (by decide) (by decide) (Nat.le_refl _) (Nat.le_refl _) dX7_movesAt_74 (fun v74 hv74 => ?_)
        refine aw_if_eq (tgt := 84) dX7_movesAt_77 (by decide) (by first | assumption | omega) (fun c77 => ?_) (fun c77 => ?_)
        · refine aw_iconst dX7_movesAt_84 ?_
          refine aw_iadd dX7_movesAt_85 ?_
          refine aw_istore (i := 4) (lv' := [(0, .ref 58), (1, iI w), (2, iI s), (3, iI x), (4, iI (g + 0)), (5, iI z), (6, iI y)]) [1, 2, 3, 4, 0, 5, 6] dX7_movesAt_86 (by decide) rfl ?_
          refine aw_iinc (i := 6) (q := 6) (x := y) (lv' := [(0, .ref 58), (1, iI w), (2, iI s), (3, iI x), (4, iI (g + 0)), (5, iI z), (6, iI (y + 1))]) [1, 2, 3, 4, 5, 6, 0] dX7_movesAt_88 rfl (by decide) rfl ?_
          refine aw_goto (tgt := 20) dX7_movesAt_91 (by decide) ?_
          have hsj : cnJ (fun k => mi 72 (100 * w + k)) (dM mi) s x z (j + 1) = cnJ (fun k => mi 72 (100 * w + k)) (dM mi) s x z j + pick (bit (mi 72 (100 * w + z)) y ∧ z * s - mi 59 y ≤ x ∧ x < z * s) 1 0 := by rw [hyj]; rfl
          exact ih (g + 0) (y + 1) (j + 1) (by rw [hsj]; first | (rw [pick_pos ⟨by rcases hbt47 with ⟨q, -⟩ | ⟨-, q⟩; (exact q); (omega), by omega, by omega⟩]; omega) | (rw [pick_neg (fun q => by rcases hbt47 with ⟨-, q9⟩ | ⟨q9, -⟩; (omega); (exact q9 q.1))]; omega)) (by omega) (by omega) (by omega)
        · refine aw_iconst dX7_movesAt_80 ?_
          refine aw_goto (tgt := 85) dX7_movesAt_81 (by decide) ?_
          refine aw_iadd dX7_movesAt_85 ?_
          refine aw_istore (i := 4) (lv' := [(0, .ref 58), (1, iI w), (2, iI s), (3, iI x), (4, iI (g + 1)), (5, iI z), (6, iI y)]) [1, 2, 3, 4, 0, 5, 6] dX7_movesAt_86 (by decide) rfl ?_
          refine aw_iinc (i := 6) (q := 6) (x := y) (lv' := [(0, .ref 58), (1, iI w), (2, iI s), (3, iI x), (4, iI (g + 1)), (5, iI z), (6, iI (y + 1))]) [1, 2, 3, 4, 5, 6, 0] dX7_movesAt_88 rfl (by decide) rfl ?_
          refine aw_goto (tgt := 20) dX7_movesAt_91 (by decide) ?_
          have hsj : cnJ (fun k => mi 72 (100 * w + k)) (dM mi) s x z (j + 1) = cnJ (fun k => mi 72 (100 * w + k)) (dM mi) s x z j + pick (bit (mi 72 (100 * w + z)) y ∧ z * s - mi 59 y ≤ x ∧ x < z * s) 1 0 := by rw [hyj]; rfl
          exact ih (g + 1) (y + 1) (j + 1) (by rw [hsj]; first | (rw [pick_pos ⟨by rcases hbt47 with ⟨q, -⟩ | ⟨-, q⟩; (exact q); (omega), by omega, by omega⟩]; omega) | (rw [pick_neg (fun q => by rcases hbt47 with ⟨-, q9⟩ | ⟨q9, -⟩; (omega); (exact q9 q.1))]; omega)) (by omega) (by omega) (by omega)
theorem l_mov1 {mr : aR} (hR : Rok mr) {mi : aM} {w s x : Int} (hB : mB mi) (hp : pM mi) (hw : 0 ≤ w ∧ w < 5) (hs : 1 ≤ s ∧ s ≤ 200) (hx : -100 ≤ x ∧ x ≤ 40000) : ∀ (n : Nat) (g z : Int) (i : Nat), g = cnK (fun k => mi 72 (100 * w + k)) (dM mi) s x (mi 58 6).toNat i → z = (i : Int) → (0 ≤ z ∧ z ≤ mi 73 w) → mi 73 w - z < n → AWm RX7 cX7_movesAt 7 2 (Pp mi mr (fun r => r = cnK (fun k => mi 72 (100 * w + k)) (dM mi) s x (mi 58 6).toNat (mi 73 w).toNat)) 6 [(0, .ref 58), (1, iI w), (2, iI s), (3, iI x), (4, iI g), (5, iI z)] [] mi mr := by
  intro n
  induction n with
  | zero => intro g z i hg hz h2 h3; omega
  | succ n ih =>
    intro g z i hg hz h2 h3
    have hn := hB.1
    have hpw := (hp w hw.1 hw.2).1
    have hgr := cnK_rng (fun k => mi 72 (100 * w + k)) (dM mi) s x (mi 58 6).toNat i
    have hgm : ((mi 58 6).toNat : Int) * (i : Int) ≤ 12 * 100 := Int.mul_le_mul (by omega) (by omega) (by omega) (by omega)
    refine aw_iload (i := 5) (q := 5) dX7_movesAt_6 rfl ?_
    refine aw_aload_n (i := 0) (q := 0) dX7_movesAt_8 rfl rfl ?_
    refine aw_getR (r := 73) flX7_57 SH_58 (by decide) rfl (rk_58_21 hR) dX7_movesAt_9 ?_
    refine aw_iload_n (i := 1) (q := 1) dX7_movesAt_12 rfl rfl ?_
    refine aw_ialdv (x := mi 73 w) SH_73 (by decide) ⟨by omega, by omega⟩ rfl dX7_movesAt_13 (fun r13 => ?_)
    refine aw_icmp_ge (tgt := 100) dX7_movesAt_14 (by decide) (by first | assumption | omega) (by first | assumption | omega) (fun c14 => ?_) (fun c14 => ?_)
    · refine aw_iload (i := 4) (q := 4) dX7_movesAt_100 rfl ?_
      exact aw_iret ⟨_, rfl, rfl, rfl, rfl, ((show i = (mi 73 w).toNat by omega) ▸ hg)⟩ (Nat.le_refl _) (Nat.le_refl _) dX7_movesAt_102
    · refine aw_iconst dX7_movesAt_17 ?_
      refine aw_istore (i := 6) (lv' := [(0, .ref 58), (1, iI w), (2, iI s), (3, iI x), (4, iI g), (5, iI z), (6, iI 0)]) [1, 2, 3, 4, 5, 6, 0] dX7_movesAt_18 (by decide) rfl ?_
      exact l_mov2 hR hB hp hw hs hx hz (by omega) hg (by omega) (fun g h => ih g (z + 1) (i + 1) h (by omega) (by omega) (by omega)) ((mi 58 6).toNat + 1) g 0 0 (by show g = g + 0; omega) rfl (by omega) (by omega)
theorem s_X7_movesAt {mr : aR} (hR : Rok mr) {mi : aM} {w s x : Int} (hB : mB mi) (hp : pM mi) (hw : 0 ≤ w ∧ w < 5) (hs : 1 ≤ s ∧ s ≤ 200) (hx : -100 ≤ x ∧ x ≤ 40000) : SPg yX7_movesAt cX7_movesAt 7 (some .int) 2 [.ref 58, iI w, iI s, iI x] mi mr (Pp mi mr (fun r => r = cnK (fun k => mi 72 (100 * w + k)) (dM mi) s x (mi 58 6).toNat (mi 73 w).toNat)) := by
  refine SPg.pure rfl (by decide +kernel) (Nat.le_of_ble_eq_true rfl) ?_
  show AWm RX7 cX7_movesAt 7 2 _ 0 [(0, .ref 58), (1, iI w), (2, iI s), (3, iI x)] [] mi mr
  refine aw_iconst dX7_movesAt_0 ?_
  refine aw_istore (i := 4) (lv' := [(0, .ref 58), (1, iI w), (2, iI s), (3, iI x), (4, iI 0)]) [1, 2, 3, 4, 0] dX7_movesAt_1 (by decide) rfl ?_
  refine aw_iconst dX7_movesAt_3 ?_
  refine aw_istore (i := 5) (lv' := [(0, .ref 58), (1, iI w), (2, iI s), (3, iI x), (4, iI 0), (5, iI 0)]) [1, 2, 3, 4, 5, 0] dX7_movesAt_4 (by decide) rfl ?_
  have hpw := (hp w hw.1 hw.2).1
  exact l_mov1 hR hB hp hw hs hx ((mi 73 w).toNat + 1) 0 0 0 rfl rfl (by omega) (by omega)
