-- part 42: the model: movesAt, powerNeeded (printed by wip/whole/gen/p42.py)
theorem l_mov2 {mr : aR} (hR : Rok mr) {mi : aM} {w s x : Int} (hB : mB mi) (hp : pM mi) (hw : 0 ≤ w ∧ w < 5) (hs : 1 ≤ s ∧ s ≤ 200) (hx : -100 ≤ x ∧ x ≤ 40000) {z g0 : Int} {i : Nat} (hz : z = (i : Int)) (hzr : 0 ≤ z ∧ z < mi 73 w) (hg0 : g0 = cnK (fun k => mi 72 (100 * w + k)) (dM mi) s x (mi 58 6).toNat i) (hg9 : 0 ≤ g0 ∧ g0 ≤ 1200) (kx : ∀ (g : Int), g = cnK (fun k => mi 72 (100 * w + k)) (dM mi) s x (mi 58 6).toNat (i + 1) → AWm RX7 cX7_movesAt 7 2 (Pp mi mr (fun r => r = cnK (fun k => mi 72 (100 * w + k)) (dM mi) s x (mi 58 6).toNat (mi 73 w).toNat)) 6 [(0, .ref 58), (1, iI w), (2, iI s), (3, iI x), (4, iI g), (5, iI (z + 1))] [] mi mr) : ∀ (n : Nat) (g y : Int) (j : Nat), g = g0 + cnJ (fun k => mi 72 (100 * w + k)) (dM mi) s x z j → y = (j : Int) → (0 ≤ y ∧ y ≤ mi 58 6) → mi 58 6 - y < n → AWm RX7 cX7_movesAt 7 2 (Pp mi mr (fun r => r = cnK (fun k => mi 72 (100 * w + k)) (dM mi) s x (mi 58 6).toNat (mi 73 w).toNat)) 20 [(0, .ref 58), (1, iI w), (2, iI s), (3, iI x), (4, iI g), (5, iI z), (6, iI y)] [] mi mr := by
  intro n
  induction n with
  | zero => intro g y j hg hyj h2 h3; omega
  | succ n ih =>
    intro g y j hg hyj h2 h3
    have hn := hB.1
    have hpw := (hp w hw.1 hw.2).1
    have hms := mul_lt (z := z) (s := s) (by omega) hs
    have hjr := cnJ_rng (fun k => mi 72 (100 * w + k)) (dM mi) s x z j
    refine aw_iload (i := 6) (q := 6) dX7_movesAt_20 rfl ?_
    refine aw_aload_n (i := 0) (q := 0) dX7_movesAt_22 rfl rfl ?_
    refine aw_getIk (x := mi 58 6) 6 flX7_132 SH_58 (by decide) rfl rfl rfl dX7_movesAt_23 (fun r23 => ?_)
    refine aw_icmp_ge (tgt := 94) dX7_movesAt_26 (by decide) (by first | assumption | omega) (by first | assumption | omega) (fun c26 => ?_) (fun c26 => ?_)
    · refine aw_sub (lv' := [(0, .ref 58), (1, iI w), (2, iI s), (3, iI x), (4, iI g), (5, iI z)]) [0, 1, 2, 3, 4, 5] rfl ?_
      refine aw_iinc (i := 5) (q := 5) (x := z) (lv' := [(0, .ref 58), (1, iI w), (2, iI s), (3, iI x), (4, iI g), (5, iI (z + 1))]) [1, 2, 3, 4, 5, 0] dX7_movesAt_94 rfl (by decide) rfl ?_
      refine aw_goto (tgt := 6) dX7_movesAt_97 (by decide) ?_
      exact kx g (by rw [hg, hg0, show j = (mi 58 6).toNat by omega, hz]; rfl)
    · have hst9 := (hp w hw.1 hw.2).2 z (by omega) (by omega)
      have k59 := (hB.2.2 y (by omega) (by omega)).1
      refine aw_iload (i := 4) (q := 4) dX7_movesAt_29 rfl ?_
      refine aw_aload_n (i := 0) (q := 0) dX7_movesAt_31 rfl rfl ?_
      refine aw_getR (r := 72) flX7_54 SH_58 (by decide) rfl (rk_58_20 hR) dX7_movesAt_32 ?_
      refine aw_bipush (x := 100) dX7_movesAt_35 rfl ?_
      refine aw_iload_n (i := 1) (q := 1) dX7_movesAt_37 rfl rfl ?_
      refine aw_imul dX7_movesAt_38 ?_
      refine aw_iload (i := 5) (q := 5) dX7_movesAt_39 rfl ?_
      refine aw_iadd dX7_movesAt_41 ?_
      refine aw_ialdv (x := mi 72 ((100 * w) + z)) SH_72 (by decide) ⟨by omega, by omega⟩ rfl dX7_movesAt_42 (fun r42 => ?_)
      refine aw_iload (i := 6) (q := 6) dX7_movesAt_43 rfl ?_
      refine aw_ishr (z := (((mi 72 ((100 * w) + z)).toNat / 2 ^ (y).toNat : Nat) : Int)) dX7_movesAt_45 (bt_shr (by omega) (by omega)) ?_
      refine aw_iconst dX7_movesAt_46 ?_
      obtain ⟨bw47, hbw47, hbt47⟩ := bit_w (mi 72 ((100 * w) + z)) y
      refine aw_iand (z := bw47) dX7_movesAt_47 (by rw [hbw47]; exact bt_and (shr_rng (by omega)) (by decide)) ?_
      refine aw_iconst dX7_movesAt_48 ?_
      refine aw_icmp_ne (tgt := 84) dX7_movesAt_49 (by decide) (by first | assumption | omega) (by decide) (fun c49 => ?_) (fun c49 => ?_)
      · refine aw_iconst dX7_movesAt_84 ?_
        refine aw_iadd dX7_movesAt_85 ?_
        refine aw_istore (i := 4) (lv' := [(0, .ref 58), (1, iI w), (2, iI s), (3, iI x), (4, iI (g + 0)), (5, iI z), (6, iI y)]) [1, 2, 3, 4, 0, 5, 6] dX7_movesAt_86 (by decide) rfl ?_
        refine aw_iinc (i := 6) (q := 6) (x := y) (lv' := [(0, .ref 58), (1, iI w), (2, iI s), (3, iI x), (4, iI (g + 0)), (5, iI z), (6, iI (y + 1))]) [1, 2, 3, 4, 5, 6, 0] dX7_movesAt_88 rfl (by decide) rfl ?_
        refine aw_goto (tgt := 20) dX7_movesAt_91 (by decide) ?_
        have hsj : cnJ (fun k => mi 72 (100 * w + k)) (dM mi) s x z (j + 1) = cnJ (fun k => mi 72 (100 * w + k)) (dM mi) s x z j + pick (bit (mi 72 (100 * w + z)) y ∧ z * s - mi 59 y ≤ x ∧ x < z * s) 1 0 := by rw [hyj]; rfl
        exact ih (g + 0) (y + 1) (j + 1) (by rw [hsj]; first | (rw [pick_pos ⟨by rcases hbt47 with ⟨q, -⟩ | ⟨-, q⟩; (exact q); (omega), by omega, by omega⟩]; omega) | (rw [pick_neg (fun q => by rcases hbt47 with ⟨-, q9⟩ | ⟨q9, -⟩; (omega); (exact q9 q.1))]; omega)) (by omega) (by omega) (by omega)
      · refine aw_iload_n (i := 3) (q := 3) dX7_movesAt_52 rfl rfl ?_
        refine aw_i2l dX7_movesAt_53 (by first | assumption | omega) ?_
        refine aw_iload (i := 5) (q := 5) dX7_movesAt_54 rfl ?_
        refine aw_iload_n (i := 2) (q := 2) dX7_movesAt_56 rfl rfl ?_
        refine aw_imul dX7_movesAt_57 ?_
        refine aw_aload_n (i := 0) (q := 0) dX7_movesAt_58 rfl rfl ?_
        refine aw_getR (r := 59) flX7_13 SH_58 (by decide) rfl (rk_58_1 hR) dX7_movesAt_59 ?_
        refine aw_iload (i := 6) (q := 6) dX7_movesAt_62 rfl ?_
        refine aw_ialdv (x := mi 59 y) SH_59 (by decide) ⟨by omega, by omega⟩ rfl dX7_movesAt_64 (fun r64 => ?_)
        refine aw_isub dX7_movesAt_65 ?_
        refine aw_i2l dX7_movesAt_66 (by first | assumption | omega) ?_
        refine aw_iload (i := 5) (q := 5) dX7_movesAt_67 rfl ?_
        refine aw_iload_n (i := 2) (q := 2) dX7_movesAt_69 rfl rfl ?_
        refine aw_imul dX7_movesAt_70 ?_
        refine aw_iconst dX7_movesAt_71 ?_
        refine aw_isub dX7_movesAt_72 ?_
        refine aw_i2l dX7_movesAt_73 (by first | assumption | omega) ?_
        refine aw_cSp (As := [lL x, lL ((z * s) - (mi 59 y)), lL ((z * s) - 1)]) (st := [iI g]) clX7_135 (s_X7_isIn hR (by omega) (by omega) (by omega)) rfl rfl (Nat.le_of_ble_eq_true rfl) (by decide) (by decide) (Nat.le_refl _) (Nat.le_refl _) dX7_movesAt_74 (fun v74 hv74 => ?_)
        refine aw_if_eq (tgt := 84) dX7_movesAt_77 (by decide) (by first | assumption | omega) (fun c77 => ?_) (fun c77 => ?_)
        · refine aw_iconst dX7_movesAt_84 ?_
          refine aw_iadd dX7_movesAt_85 ?_
          refine aw_istore (i := 4) (lv' := [(0, .ref 58), (1, iI w), (2, iI s), (3, iI x), (4, iI (g + 0)), (5, iI z), (6, iI y)]) [1, 2, 3, 4, 0, 5, 6] dX7_movesAt_86 (by decide) rfl ?_
          refine aw_iinc (i := 6) (q := 6) (x := y) (lv' := [(0, .ref 58), (1, iI w), (2, iI s), (3, iI x), (4, iI (g + 0)), (5, iI z), (6, iI (y + 1))]) [1, 2, 3, 4, 5, 6, 0] dX7_movesAt_88 rfl (by decide) rfl ?_
          refine aw_goto (tgt := 20) dX7_movesAt_91 (by decide) ?_
          have hsj : cnJ (fun k => mi 72 (100 * w + k)) (dM mi) s x z (j + 1) = cnJ (fun k => mi 72 (100 * w + k)) (dM mi) s x z j + pick (bit (mi 72 (100 * w + z)) y ∧ z * s - mi 59 y ≤ x ∧ x < z * s) 1 0 := by rw [hyj]; rfl
          exact ih (g + 0) (y + 1) (j + 1) (by rw [hsj]; first | (rw [pick_pos ⟨by rcases hbt47 with ⟨q, -⟩ | ⟨-, q⟩; (exact q); (omega), by omega, by omega⟩]; omega) | (rw [pick_neg (fun q => by rcases hbt47 with ⟨-, q9⟩ | ⟨q9, -⟩; (omega); (exact q9 q.1))]; omega)) (by omega) (by omega) (by omega)
        · refine aw_iconst dX7_movesAt_80 ?_
          refine aw_goto (tgt := 85) dX7_movesAt_81 (by decide) ?_
          refine aw_iadd dX7_movesAt_85 ?_
          refine aw_istore (i := 4) (lv' := [(0, .ref 58), (1, iI w), (2, iI s), (3, iI x), (4, iI (g + 1)), (5, iI z), (6, iI y)]) [1, 2, 3, 4, 0, 5, 6] dX7_movesAt_86 (by decide) rfl ?_
          refine aw_iinc (i := 6) (q := 6) (x := y) (lv' := [(0, .ref 58), (1, iI w), (2, iI s), (3, iI x), (4, iI (g + 1)), (5, iI z), (6, iI (y + 1))]) [1, 2, 3, 4, 5, 6, 0] dX7_movesAt_88 rfl (by decide) rfl ?_
          refine aw_goto (tgt := 20) dX7_movesAt_91 (by decide) ?_
          have hsj : cnJ (fun k => mi 72 (100 * w + k)) (dM mi) s x z (j + 1) = cnJ (fun k => mi 72 (100 * w + k)) (dM mi) s x z j + pick (bit (mi 72 (100 * w + z)) y ∧ z * s - mi 59 y ≤ x ∧ x < z * s) 1 0 := by rw [hyj]; rfl
          exact ih (g + 1) (y + 1) (j + 1) (by rw [hsj]; first | (rw [pick_pos ⟨by rcases hbt47 with ⟨q, -⟩ | ⟨-, q⟩; (exact q); (omega), by omega, by omega⟩]; omega) | (rw [pick_neg (fun q => by rcases hbt47 with ⟨-, q9⟩ | ⟨q9, -⟩; (omega); (exact q9 q.1))]; omega)) (by omega) (by omega) (by omega)
theorem l_mov1 {mr : aR} (hR : Rok mr) {mi : aM} {w s x : Int} (hB : mB mi) (hp : pM mi) (hw : 0 ≤ w ∧ w < 5) (hs : 1 ≤ s ∧ s ≤ 200) (hx : -100 ≤ x ∧ x ≤ 40000) : ∀ (n : Nat) (g z : Int) (i : Nat), g = cnK (fun k => mi 72 (100 * w + k)) (dM mi) s x (mi 58 6).toNat i → z = (i : Int) → (0 ≤ z ∧ z ≤ mi 73 w) → mi 73 w - z < n → AWm RX7 cX7_movesAt 7 2 (Pp mi mr (fun r => r = cnK (fun k => mi 72 (100 * w + k)) (dM mi) s x (mi 58 6).toNat (mi 73 w).toNat)) 6 [(0, .ref 58), (1, iI w), (2, iI s), (3, iI x), (4, iI g), (5, iI z)] [] mi mr := by
  intro n
  induction n with
  | zero => intro g z i hg hz h2 h3; omega
  | succ n ih =>
    intro g z i hg hz h2 h3
    have hn := hB.1
    have hpw := (hp w hw.1 hw.2).1
    have hgr := cnK_rng (fun k => mi 72 (100 * w + k)) (dM mi) s x (mi 58 6).toNat i
    have hgm : ((mi 58 6).toNat : Int) * (i : Int) ≤ 12 * 100 := Int.mul_le_mul (by omega) (by omega) (by omega) (by omega)
    refine aw_iload (i := 5) (q := 5) dX7_movesAt_6 rfl ?_
    refine aw_aload_n (i := 0) (q := 0) dX7_movesAt_8 rfl rfl ?_
    refine aw_getR (r := 73) flX7_57 SH_58 (by decide) rfl (rk_58_21 hR) dX7_movesAt_9 ?_
    refine aw_iload_n (i := 1) (q := 1) dX7_movesAt_12 rfl rfl ?_
    refine aw_ialdv (x := mi 73 w) SH_73 (by decide) ⟨by omega, by omega⟩ rfl dX7_movesAt_13 (fun r13 => ?_)
    refine aw_icmp_ge (tgt := 100) dX7_movesAt_14 (by decide) (by first | assumption | omega) (by first | assumption | omega) (fun c14 => ?_) (fun c14 => ?_)
    · refine aw_iload (i := 4) (q := 4) dX7_movesAt_100 rfl ?_
      exact aw_iret ⟨_, rfl, rfl, rfl, rfl, ((show i = (mi 73 w).toNat by omega) ▸ hg)⟩ (Nat.le_refl _) (Nat.le_refl _) dX7_movesAt_102
    · refine aw_iconst dX7_movesAt_17 ?_
      refine aw_istore (i := 6) (lv' := [(0, .ref 58), (1, iI w), (2, iI s), (3, iI x), (4, iI g), (5, iI z), (6, iI 0)]) [1, 2, 3, 4, 5, 6, 0] dX7_movesAt_18 (by decide) rfl ?_
      exact l_mov2 hR hB hp hw hs hx hz (by omega) hg (by omega) (fun g h => ih g (z + 1) (i + 1) h (by omega) (by omega) (by omega)) ((mi 58 6).toNat + 1) g 0 0 (by show g = g + 0; omega) rfl (by omega) (by omega)
theorem s_X7_movesAt {mr : aR} (hR : Rok mr) {mi : aM} {w s x : Int} (hB : mB mi) (hp : pM mi) (hw : 0 ≤ w ∧ w < 5) (hs : 1 ≤ s ∧ s ≤ 200) (hx : -100 ≤ x ∧ x ≤ 40000) : SPg yX7_movesAt cX7_movesAt 7 (some .int) 2 [.ref 58, iI w, iI s, iI x] mi mr (Pp mi mr (fun r => r = cnK (fun k => mi 72 (100 * w + k)) (dM mi) s x (mi 58 6).toNat (mi 73 w).toNat)) := by
  refine SPg.pure rfl (by decide +kernel) (Nat.le_of_ble_eq_true rfl) ?_
  show AWm RX7 cX7_movesAt 7 2 _ 0 [(0, .ref 58), (1, iI w), (2, iI s), (3, iI x)] [] mi mr
  refine aw_iconst dX7_movesAt_0 ?_
  refine aw_istore (i := 4) (lv' := [(0, .ref 58), (1, iI w), (2, iI s), (3, iI x), (4, iI 0)]) [1, 2, 3, 4, 0] dX7_movesAt_1 (by decide) rfl ?_
  refine aw_iconst dX7_movesAt_3 ?_
  refine aw_istore (i := 5) (lv' := [(0, .ref 58), (1, iI w), (2, iI s), (3, iI x), (4, iI 0), (5, iI 0)]) [1, 2, 3, 4, 5, 0] dX7_movesAt_4 (by decide) rfl ?_
  have hpw := (hp w hw.1 hw.2).1
  exact l_mov1 hR hB hp hw hs hx ((mi 73 w).toNat + 1) 0 0 0 rfl rfl (by omega) (by omega)
/-- the greatest over the starts so far: the steps below i, and of the step i the bells below j -/
def pmS (M : Int → Int) (S d : Int → Int) (s : Int) (NB i j : Nat) (r : Int) : Prop := (r = 0 ∨ ∃ k b : Nat, ((k < i ∧ b < NB) ∨ (k = i ∧ b < j)) ∧ bit (S k) b ∧ r = M (k * s - d b)) ∧ (0 ≤ r ∧ r ≤ 1200) ∧ ∀ k b : Nat, ((k < i ∧ b < NB) ∨ (k = i ∧ b < j)) → bit (S k) b → M (k * s - d b) ≤ r
theorem pmS_no {M S d : Int → Int} {s : Int} {NB i j : Nat} {r : Int} (h : pmS M S d s NB i j r) (hn : ¬ bit (S i) j) : pmS M S d s NB i (j + 1) r := by
  obtain ⟨h1, h2, h3⟩ := h
  refine ⟨?_, h2, fun k b hk hb => ?_⟩
  · rcases h1 with q | ⟨k, b, q1, q2, q3⟩
    · exact Or.inl q
    · exact Or.inr ⟨k, b, by omega, q2, q3⟩
  · by_cases e : k = i ∧ b = j
    · rw [e.1, e.2] at hb; exact absurd hb hn
    · exact h3 k b (by omega) hb
theorem pmS_yes {M S d : Int → Int} {s : Int} {NB i j : Nat} {r q : Int} (h : pmS M S d s NB i j r) (hy : bit (S i) j) (hM : 0 ≤ M (i * s - d j) ∧ M (i * s - d j) ≤ 1200) (hq : (r < M (i * s - d j) ∧ q = M (i * s - d j)) ∨ (M (i * s - d j) ≤ r ∧ q = r)) : pmS M S d s NB i (j + 1) q := by
  obtain ⟨h1, h2, h3⟩ := h
  rcases hq with ⟨a, rfl⟩ | ⟨a, rfl⟩
  · refine ⟨Or.inr ⟨i, j, by omega, hy, rfl⟩, hM, fun k b hk hb => ?_⟩
    by_cases e : k = i ∧ b = j
    · rw [e.1, e.2]; exact Int.le_refl _
    · have := h3 k b (by omega) hb; omega
  · refine ⟨?_, h2, fun k b hk hb => ?_⟩
    · rcases h1 with q | ⟨k, b, q1, q2, q3⟩
      · exact Or.inl q
      · exact Or.inr ⟨k, b, by omega, q2, q3⟩
    · by_cases e : k = i ∧ b = j
      · rw [e.1, e.2]; exact a
      · exact h3 k b (by omega) hb
theorem pmS_row {M S d : Int → Int} {s : Int} {NB i : Nat} {r : Int} (h : pmS M S d s NB i NB r) : pmS M S d s NB (i + 1) 0 r := by
  obtain ⟨h1, h2, h3⟩ := h
  refine ⟨?_, h2, fun k b hk hb => h3 k b (by omega) hb⟩
  rcases h1 with q | ⟨k, b, q1, q2, q3⟩
  · exact Or.inl q
  · exact Or.inr ⟨k, b, by omega, q2, q3⟩
theorem pmS_end {M S d : Int → Int} {s : Int} {NB i : Nat} {r : Int} (h : pmS M S d s NB i 0 r) : mxS M S d s NB i r := by
  obtain ⟨h1, h2, h3⟩ := h
  refine ⟨?_, h2.1, fun k b hk hb => h3 k b (by omega)⟩
  rcases h1 with q | ⟨k, b, q1, q2, q3⟩
  · exact Or.inl q
  · exact Or.inr ⟨k, b, by omega, by omega, q2, q3⟩
theorem l_mneed2 {mr : aR} (hR : Rok mr) {mi : aM} {w s : Int} (hB : mB mi) (hp : pM mi) (hw : 0 ≤ w ∧ w < 5) (hne : mi 73 w ≠ 0) (hs : 1 ≤ s ∧ s ≤ 200) {z : Int} {i : Nat} (hz : z = (i : Int)) (hzr : 0 ≤ z ∧ z < mi 73 w) (kx : ∀ (g : Int), pmS (fun x => cnK (fun k => mi 72 (100 * w + k)) (dM mi) s x (mi 58 6).toNat (mi 73 w).toNat) (fun k => mi 72 (100 * w + k)) (dM mi) s (mi 58 6).toNat (i + 1) 0 g → AWm RX7 cX7_powerNeeded 7 3 (Pi mr (fun r m => m = mi ∧ ((¬ (0 ≤ w ∧ w < 5) ∧ r = -2) ∨ ((0 ≤ w ∧ w < 5) ∧ ((mi 73 w = 0 ∧ r = -9) ∨ (mi 73 w ≠ 0 ∧ ((¬ (1 ≤ s ∧ s ≤ 200) ∧ r = -3) ∨ ((1 ≤ s ∧ s ≤ 200) ∧ mxS (fun x => cnK (fun k => mi 72 (100 * w + k)) (dM mi) s x (mi 58 6).toNat (mi 73 w).toNat) (fun k => mi 72 (100 * w + k)) (dM mi) s (mi 58 6).toNat (mi 73 w).toNat r)))))))) 47 [(0, .ref 58), (1, iI w), (2, iI s), (3, iI g), (4, iI (z + 1))] [] mi mr) : ∀ (n : Nat) (g y : Int) (j : Nat), pmS (fun x => cnK (fun k => mi 72 (100 * w + k)) (dM mi) s x (mi 58 6).toNat (mi 73 w).toNat) (fun k => mi 72 (100 * w + k)) (dM mi) s (mi 58 6).toNat i j g → y = (j : Int) → (0 ≤ y ∧ y ≤ mi 58 6) → mi 58 6 - y < n → AWm RX7 cX7_powerNeeded 7 3 (Pi mr (fun r m => m = mi ∧ ((¬ (0 ≤ w ∧ w < 5) ∧ r = -2) ∨ ((0 ≤ w ∧ w < 5) ∧ ((mi 73 w = 0 ∧ r = -9) ∨ (mi 73 w ≠ 0 ∧ ((¬ (1 ≤ s ∧ s ≤ 200) ∧ r = -3) ∨ ((1 ≤ s ∧ s ≤ 200) ∧ mxS (fun x => cnK (fun k => mi 72 (100 * w + k)) (dM mi) s x (mi 58 6).toNat (mi 73 w).toNat) (fun k => mi 72 (100 * w + k)) (dM mi) s (mi 58 6).toNat (mi 73 w).toNat r)))))))) 61 [(0, .ref 58), (1, iI w), (2, iI s), (3, iI g), (4, iI z), (5, iI y)] [] mi mr := by
  intro n
  induction n with
  | zero => intro g y j hg hyj h2 h3; omega
  | succ n ih =>
    intro g y j hg hyj h2 h3
    have hn := hB.1
    have hpw := (hp w hw.1 hw.2).1
    have hms := mul_lt (z := z) (s := s) (by omega) hs
    have hgr := hg.2.1
    refine aw_iload (i := 5) (q := 5) dX7_powerNeeded_61 rfl ?_
    refine aw_aload_n (i := 0) (q := 0) dX7_powerNeeded_63 rfl rfl ?_
    refine aw_getIk (x := mi 58 6) 6 flX7_132 SH_58 (by decide) rfl rfl rfl dX7_powerNeeded_64 (fun r64 => ?_)
    refine aw_icmp_ge (tgt := 134) dX7_powerNeeded_67 (by decide) (by first | assumption | omega) (by first | assumption | omega) (fun c67 => ?_) (fun c67 => ?_)
    · refine aw_sub (lv' := [(0, .ref 58), (1, iI w), (2, iI s), (3, iI g), (4, iI z)]) [0, 1, 2, 3, 4] rfl ?_
      refine aw_iinc (i := 4) (q := 4) (x := z) (lv' := [(0, .ref 58), (1, iI w), (2, iI s), (3, iI g), (4, iI (z + 1))]) [1, 2, 3, 4, 0] dX7_powerNeeded_134 rfl (by decide) rfl ?_
      refine aw_goto (tgt := 47) dX7_powerNeeded_137 (by decide) ?_
      exact kx g (by have hj9 : j = (mi 58 6).toNat := (by omega); subst hj9; exact pmS_row hg)
    · have hst9 := (hp w hw.1 hw.2).2 z (by omega) (by omega)
      have k59 := (hB.2.2 y (by omega) (by omega)).1
      refine aw_aload_n (i := 0) (q := 0) dX7_powerNeeded_70 rfl rfl ?_
      refine aw_getR (r := 72) flX7_54 SH_58 (by decide) rfl (rk_58_20 hR) dX7_powerNeeded_71 ?_
      refine aw_bipush (x := 100) dX7_powerNeeded_74 rfl ?_
      refine aw_iload_n (i := 1) (q := 1) dX7_powerNeeded_76 rfl rfl ?_
      refine aw_imul dX7_powerNeeded_77 ?_
      refine aw_iload (i := 4) (q := 4) dX7_powerNeeded_78 rfl ?_
      refine aw_iadd dX7_powerNeeded_80 ?_
      refine aw_ialdv (x := mi 72 ((100 * w) + z)) SH_72 (by decide) ⟨by omega, by omega⟩ rfl dX7_powerNeeded_81 (fun r81 => ?_)
      refine aw_iload (i := 5) (q := 5) dX7_powerNeeded_82 rfl ?_
      refine aw_ishr (z := (((mi 72 ((100 * w) + z)).toNat / 2 ^ (y).toNat : Nat) : Int)) dX7_powerNeeded_84 (bt_shr (by omega) (by omega)) ?_
      refine aw_iconst dX7_powerNeeded_85 ?_
      obtain ⟨bw86, hbw86, hbt86⟩ := bit_w (mi 72 ((100 * w) + z)) y
      refine aw_iand (z := bw86) dX7_powerNeeded_86 (by rw [hbw86]; exact bt_and (shr_rng (by omega)) (by decide)) ?_
      refine aw_iconst dX7_powerNeeded_87 ?_
      refine aw_icmp_ne (tgt := 112) dX7_powerNeeded_88 (by decide) (by first | assumption | omega) (by decide) (fun c88 => ?_) (fun c88 => ?_)
      · refine aw_iconst dX7_powerNeeded_112 ?_
        refine aw_istore (i := 6) (lv' := [(0, .ref 58), (1, iI w), (2, iI s), (3, iI g), (4, iI z), (5, iI y), (6, iI 0)]) [1, 2, 3, 4, 5, 6, 0] dX7_powerNeeded_113 (by decide) rfl ?_
        refine aw_iload (i := 6) (q := 6) dX7_powerNeeded_115 rfl ?_
        refine aw_iload_n (i := 3) (q := 3) dX7_powerNeeded_117 rfl rfl ?_
        refine aw_icmp_le (tgt := 126) dX7_powerNeeded_118 (by decide) (by decide) (by first | assumption | omega) (fun c118 => ?_) (fun c118 => ?_)
        · refine aw_iload_n (i := 3) (q := 3) dX7_powerNeeded_126 rfl rfl ?_
          refine aw_istore_n (i := 3) (lv' := [(0, .ref 58), (1, iI w), (2, iI s), (3, iI g), (4, iI z), (5, iI y), (6, iI 0)]) [1, 2, 3, 0, 4, 5, 6] dX7_powerNeeded_127 rfl (by decide) rfl ?_
          refine aw_iinc (i := 5) (q := 5) (x := y) (lv' := [(0, .ref 58), (1, iI w), (2, iI s), (3, iI g), (4, iI z), (5, iI (y + 1)), (6, iI 0)]) [1, 2, 3, 4, 5, 0, 6] dX7_powerNeeded_128 rfl (by decide) rfl ?_
          refine aw_goto (tgt := 61) dX7_powerNeeded_131 (by decide) ?_
          refine aw_sub (lv' := [(0, .ref 58), (1, iI w), (2, iI s), (3, iI g), (4, iI z), (5, iI (y + 1))]) [0, 1, 2, 3, 4, 5] rfl ?_
          first | (have hno : ¬ bit (mi 72 (100 * w + z)) y := (by rcases hbt86 with ⟨-, q⟩ | ⟨q, -⟩; (omega); (exact q)); exact ih _ (y + 1) (j + 1) (by have e9 : g = g := (by omega); rw [e9]; exact pmS_no hg (by rw [← hz, ← hyj]; exact hno)) (by omega) (by omega) (by omega)) | (have hyes : bit (mi 72 (100 * w + z)) y := (by rcases hbt86 with ⟨q, -⟩ | ⟨-, q⟩; (exact q); (omega)); have hv9 : v106 = cnK (fun k => mi 72 (100 * w + k)) (dM mi) s ((i : Int) * s - dM mi (j : Int)) (mi 58 6).toNat (mi 73 w).toNat := (by rw [hv106, ← hz, ← hyj]; rfl); exact ih _ (y + 1) (j + 1) (pmS_yes hg (by rw [← hz, ← hyj]; exact hyes) (by rw [← hv9, hv106]; omega) (by rw [← hv9]; omega)) (by omega) (by omega) (by omega))
        · refine aw_iload (i := 6) (q := 6) dX7_powerNeeded_121 rfl ?_
          refine aw_goto (tgt := 127) dX7_powerNeeded_123 (by decide) ?_
          refine aw_istore_n (i := 3) (lv' := [(0, .ref 58), (1, iI w), (2, iI s), (3, iI 0), (4, iI z), (5, iI y), (6, iI 0)]) [1, 2, 3, 0, 4, 5, 6] dX7_powerNeeded_127 rfl (by decide) rfl ?_
          refine aw_iinc (i := 5) (q := 5) (x := y) (lv' := [(0, .ref 58), (1, iI w), (2, iI s), (3, iI 0), (4, iI z), (5, iI (y + 1)), (6, iI 0)]) [1, 2, 3, 4, 5, 0, 6] dX7_powerNeeded_128 rfl (by decide) rfl ?_
          refine aw_goto (tgt := 61) dX7_powerNeeded_131 (by decide) ?_
          refine aw_sub (lv' := [(0, .ref 58), (1, iI w), (2, iI s), (3, iI 0), (4, iI z), (5, iI (y + 1))]) [0, 1, 2, 3, 4, 5] rfl ?_
          first | (have hno : ¬ bit (mi 72 (100 * w + z)) y := (by rcases hbt86 with ⟨-, q⟩ | ⟨q, -⟩; (omega); (exact q)); exact ih _ (y + 1) (j + 1) (by have e9 : 0 = g := (by omega); rw [e9]; exact pmS_no hg (by rw [← hz, ← hyj]; exact hno)) (by omega) (by omega) (by omega)) | (have hyes : bit (mi 72 (100 * w + z)) y := (by rcases hbt86 with ⟨q, -⟩ | ⟨-, q⟩; (exact q); (omega)); have hv9 : v106 = cnK (fun k => mi 72 (100 * w + k)) (dM mi) s ((i : Int) * s - dM mi (j : Int)) (mi 58 6).toNat (mi 73 w).toNat := (by rw [hv106, ← hz, ← hyj]; rfl); exact ih _ (y + 1) (j + 1) (pmS_yes hg (by rw [← hz, ← hyj]; exact hyes) (by rw [← hv9, hv106]; omega) (by rw [← hv9]; omega)) (by omega) (by omega) (by omega))
      · refine aw_aload_n (i := 0) (q := 0) dX7_powerNeeded_91 rfl rfl ?_
        refine aw_iload_n (i := 1) (q := 1) dX7_powerNeeded_92 rfl rfl ?_
        refine aw_iload_n (i := 2) (q := 2) dX7_powerNeeded_93 rfl rfl ?_
        refine aw_iload (i := 4) (q := 4) dX7_powerNeeded_94 rfl ?_
        refine aw_iload_n (i := 2) (q := 2) dX7_powerNeeded_96 rfl rfl ?_
        refine aw_imul dX7_powerNeeded_97 ?_
        refine aw_aload_n (i := 0) (q := 0) dX7_powerNeeded_98 rfl rfl ?_
        refine aw_getR (r := 59) flX7_13 SH_58 (by decide) rfl (rk_58_1 hR) dX7_powerNeeded_99 ?_
        refine aw_iload (i := 5) (q := 5) dX7_powerNeeded_102 rfl ?_
        refine aw_ialdv (x := mi 59 y) SH_59 (by decide) ⟨by omega, by omega⟩ rfl dX7_powerNeeded_104 (fun r104 => ?_)
        refine aw_isub dX7_powerNeeded_105 ?_
        refine aw_cVp (As := [iI w, iI s, iI ((z * s) - (mi 59 y))]) (st := []) clX7_274 (s_X7_movesAt hR hB hp hw hs (by omega)) SH_58 rfl (by decide) rfl rfl (Nat.le_of_ble_eq_true rfl) (by decide) (by decide) (Nat.le_refl _) (Nat.le_refl _) dX7_powerNeeded_106 (fun v106 hv106 => ?_)
        have hcr := cnK_rng (fun k => mi 72 (100 * w + k)) (dM mi) s (z * s - mi 59 y) (mi 58 6).toNat (mi 73 w).toNat
        have hgm : ((mi 58 6).toNat : Int) * ((mi 73 w).toNat : Int) ≤ 12 * 100 := Int.mul_le_mul (by omega) (by omega) (by omega) (by omega)
        refine aw_goto (tgt := 113) dX7_powerNeeded_109 (by decide) ?_
        refine aw_istore (i := 6) (lv' := [(0, .ref 58), (1, iI w), (2, iI s), (3, iI g), (4, iI z), (5, iI y), (6, iI v106)]) [1, 2, 3, 4, 5, 6, 0] dX7_powerNeeded_113 (by decide) rfl ?_
        refine aw_iload (i := 6) (q := 6) dX7_powerNeeded_115 rfl ?_
        refine aw_iload_n (i := 3) (q := 3) dX7_powerNeeded_117 rfl rfl ?_
        refine aw_icmp_le (tgt := 126) dX7_powerNeeded_118 (by decide) (by first | assumption | omega) (by first | assumption | omega) (fun c118 => ?_) (fun c118 => ?_)
        · refine aw_iload_n (i := 3) (q := 3) dX7_powerNeeded_126 rfl rfl ?_
          refine aw_istore_n (i := 3) (lv' := [(0, .ref 58), (1, iI w), (2, iI s), (3, iI g), (4, iI z), (5, iI y), (6, iI v106)]) [1, 2, 3, 0, 4, 5, 6] dX7_powerNeeded_127 rfl (by decide) rfl ?_
          refine aw_iinc (i := 5) (q := 5) (x := y) (lv' := [(0, .ref 58), (1, iI w), (2, iI s), (3, iI g), (4, iI z), (5, iI (y + 1)), (6, iI v106)]) [1, 2, 3, 4, 5, 0, 6] dX7_powerNeeded_128 rfl (by decide) rfl ?_
          refine aw_goto (tgt := 61) dX7_powerNeeded_131 (by decide) ?_
          refine aw_sub (lv' := [(0, .ref 58), (1, iI w), (2, iI s), (3, iI g), (4, iI z), (5, iI (y + 1))]) [0, 1, 2, 3, 4, 5] rfl ?_
          first | (have hno : ¬ bit (mi 72 (100 * w + z)) y := (by rcases hbt86 with ⟨-, q⟩ | ⟨q, -⟩; (omega); (exact q)); exact ih _ (y + 1) (j + 1) (by have e9 : g = g := (by omega); rw [e9]; exact pmS_no hg (by rw [← hz, ← hyj]; exact hno)) (by omega) (by omega) (by omega)) | (have hyes : bit (mi 72 (100 * w + z)) y := (by rcases hbt86 with ⟨q, -⟩ | ⟨-, q⟩; (exact q); (omega)); have hv9 : v106 = cnK (fun k => mi 72 (100 * w + k)) (dM mi) s ((i : Int) * s - dM mi (j : Int)) (mi 58 6).toNat (mi 73 w).toNat := (by rw [hv106, ← hz, ← hyj]; rfl); exact ih _ (y + 1) (j + 1) (pmS_yes hg (by rw [← hz, ← hyj]; exact hyes) (by rw [← hv9, hv106]; omega) (by rw [← hv9]; omega)) (by omega) (by omega) (by omega))
        · refine aw_iload (i := 6) (q := 6) dX7_powerNeeded_121 rfl ?_
          refine aw_goto (tgt := 127) dX7_powerNeeded_123 (by decide) ?_
          refine aw_istore_n (i := 3) (lv' := [(0, .ref 58), (1, iI w), (2, iI s), (3, iI v106), (4, iI z), (5, iI y), (6, iI v106)]) [1, 2, 3, 0, 4, 5, 6] dX7_powerNeeded_127 rfl (by decide) rfl ?_
          refine aw_iinc (i := 5) (q := 5) (x := y) (lv' := [(0, .ref 58), (1, iI w), (2, iI s), (3, iI v106), (4, iI z), (5, iI (y + 1)), (6, iI v106)]) [1, 2, 3, 4, 5, 0, 6] dX7_powerNeeded_128 rfl (by decide) rfl ?_
          refine aw_goto (tgt := 61) dX7_powerNeeded_131 (by decide) ?_
          refine aw_sub (lv' := [(0, .ref 58), (1, iI w), (2, iI s), (3, iI v106), (4, iI z), (5, iI (y + 1))]) [0, 1, 2, 3, 4, 5] rfl ?_
          first | (have hno : ¬ bit (mi 72 (100 * w + z)) y := (by rcases hbt86 with ⟨-, q⟩ | ⟨q, -⟩; (omega); (exact q)); exact ih _ (y + 1) (j + 1) (by have e9 : v106 = g := (by omega); rw [e9]; exact pmS_no hg (by rw [← hz, ← hyj]; exact hno)) (by omega) (by omega) (by omega)) | (have hyes : bit (mi 72 (100 * w + z)) y := (by rcases hbt86 with ⟨q, -⟩ | ⟨-, q⟩; (exact q); (omega)); have hv9 : v106 = cnK (fun k => mi 72 (100 * w + k)) (dM mi) s ((i : Int) * s - dM mi (j : Int)) (mi 58 6).toNat (mi 73 w).toNat := (by rw [hv106, ← hz, ← hyj]; rfl); exact ih _ (y + 1) (j + 1) (pmS_yes hg (by rw [← hz, ← hyj]; exact hyes) (by rw [← hv9, hv106]; omega) (by rw [← hv9]; omega)) (by omega) (by omega) (by omega))
theorem l_mneed1 {mr : aR} (hR : Rok mr) {mi : aM} {w s : Int} (hB : mB mi) (hp : pM mi) (hw : 0 ≤ w ∧ w < 5) (hne : mi 73 w ≠ 0) (hs : 1 ≤ s ∧ s ≤ 200) : ∀ (n : Nat) (g z : Int) (i : Nat), pmS (fun x => cnK (fun k => mi 72 (100 * w + k)) (dM mi) s x (mi 58 6).toNat (mi 73 w).toNat) (fun k => mi 72 (100 * w + k)) (dM mi) s (mi 58 6).toNat i 0 g → z = (i : Int) → (0 ≤ z ∧ z ≤ mi 73 w) → mi 73 w - z < n → AWm RX7 cX7_powerNeeded 7 3 (Pi mr (fun r m => m = mi ∧ ((¬ (0 ≤ w ∧ w < 5) ∧ r = -2) ∨ ((0 ≤ w ∧ w < 5) ∧ ((mi 73 w = 0 ∧ r = -9) ∨ (mi 73 w ≠ 0 ∧ ((¬ (1 ≤ s ∧ s ≤ 200) ∧ r = -3) ∨ ((1 ≤ s ∧ s ≤ 200) ∧ mxS (fun x => cnK (fun k => mi 72 (100 * w + k)) (dM mi) s x (mi 58 6).toNat (mi 73 w).toNat) (fun k => mi 72 (100 * w + k)) (dM mi) s (mi 58 6).toNat (mi 73 w).toNat r)))))))) 47 [(0, .ref 58), (1, iI w), (2, iI s), (3, iI g), (4, iI z)] [] mi mr := by
  intro n
  induction n with
  | zero => intro g z i hg hz h2 h3; omega
  | succ n ih =>
    intro g z i hg hz h2 h3
    have hn := hB.1
    have hpw := (hp w hw.1 hw.2).1
    have hgr := hg.2.1
    refine aw_iload (i := 4) (q := 4) dX7_powerNeeded_47 rfl ?_
    refine aw_aload_n (i := 0) (q := 0) dX7_powerNeeded_49 rfl rfl ?_
    refine aw_getR (r := 73) flX7_57 SH_58 (by decide) rfl (rk_58_21 hR) dX7_powerNeeded_50 ?_
    refine aw_iload_n (i := 1) (q := 1) dX7_powerNeeded_53 rfl rfl ?_
    refine aw_ialdv (x := mi 73 w) SH_73 (by decide) ⟨by omega, by omega⟩ rfl dX7_powerNeeded_54 (fun r54 => ?_)
    refine aw_icmp_ge (tgt := 140) dX7_powerNeeded_55 (by decide) (by first | assumption | omega) (by first | assumption | omega) (fun c55 => ?_) (fun c55 => ?_)
    · refine aw_iload_n (i := 3) (q := 3) dX7_powerNeeded_140 rfl rfl ?_
      exact aw_iret ⟨_, rfl, rfl, rfl, rfl, Or.inr ⟨hw, Or.inr ⟨hne, Or.inr ⟨hs, by have hi9 : i = (mi 73 w).toNat := (by omega); subst hi9; exact pmS_end hg⟩⟩⟩⟩ (Nat.le_refl _) (Nat.le_refl _) dX7_powerNeeded_141
    · refine aw_iconst dX7_powerNeeded_58 ?_
      refine aw_istore (i := 5) (lv' := [(0, .ref 58), (1, iI w), (2, iI s), (3, iI g), (4, iI z), (5, iI 0)]) [1, 2, 3, 4, 5, 0] dX7_powerNeeded_59 (by decide) rfl ?_
      exact l_mneed2 hR hB hp hw hne hs hz (by omega) (fun g h => ih g (z + 1) (i + 1) h (by omega) (by omega) (by omega)) ((mi 58 6).toNat + 1) g 0 0 hg rfl (by omega) (by omega)
theorem t_powerNeeded {mr : aR} (hR : Rok mr) {mi : aM} {w s : Int} (h_w : -2147483648 ≤ w ∧ w ≤ 2147483647) (h_s : -2147483648 ≤ s ∧ s ≤ 2147483647) (hB : mB mi) (hp : pM mi) : AWm RX7 cX7_powerNeeded 7 3 (Pi mr (fun r m => m = mi ∧ ((¬ (0 ≤ w ∧ w < 5) ∧ r = -2) ∨ ((0 ≤ w ∧ w < 5) ∧ ((mi 73 w = 0 ∧ r = -9) ∨ (mi 73 w ≠ 0 ∧ ((¬ (1 ≤ s ∧ s ≤ 200) ∧ r = -3) ∨ ((1 ≤ s ∧ s ≤ 200) ∧ mxS (fun x => cnK (fun k => mi 72 (100 * w + k)) (dM mi) s x (mi 58 6).toNat (mi 73 w).toNat) (fun k => mi 72 (100 * w + k)) (dM mi) s (mi 58 6).toNat (mi 73 w).toNat r)))))))) 5 [(0, .ref 58), (1, iI w), (2, iI s)] [] mi mr := by
  refine aw_iload_n (i := 1) (q := 1) dX7_powerNeeded_5 rfl rfl ?_
  refine aw_cSp (As := [iI w]) (st := []) clX7_252 (s_X7_isPattern hR (by omega)) rfl rfl (Nat.le_of_ble_eq_true rfl) (by decide) (by decide) (Nat.le_refl _) (Nat.le_refl _) dX7_powerNeeded_6 (fun v6 hv6 => ?_)
  refine aw_if_ne (tgt := 15) dX7_powerNeeded_9 (by decide) (by first | assumption | omega) (fun c9 => ?_) (fun c9 => ?_)
  · have hpw := (hp w (by omega) (by omega)).1
    refine aw_aload_n (i := 0) (q := 0) dX7_powerNeeded_15 rfl rfl ?_
    refine aw_getR (r := 73) flX7_57 SH_58 (by decide) rfl (rk_58_21 hR) dX7_powerNeeded_16 ?_
    refine aw_iload_n (i := 1) (q := 1) dX7_powerNeeded_19 rfl rfl ?_
    refine aw_ialdv (x := mi 73 w) SH_73 (by decide) ⟨by omega, by omega⟩ rfl dX7_powerNeeded_20 (fun r20 => ?_)
    refine aw_if_ne (tgt := 27) dX7_powerNeeded_21 (by decide) (by first | assumption | omega) (fun c21 => ?_) (fun c21 => ?_)
    · refine aw_iload_n (i := 2) (q := 2) dX7_powerNeeded_27 rfl rfl ?_
      refine aw_i2l dX7_powerNeeded_28 (by first | assumption | omega) ?_
      refine aw_lconst (x := 1) dX7_powerNeeded_29 rfl ?_
      refine aw_ldc2 (x := 200) coX7_258 rfl dX7_powerNeeded_30 ?_
      refine aw_cSp (As := [lL s, lL 1, lL 200]) (st := []) clX7_135 (s_X7_isIn hR (by omega) (by omega) (by omega)) rfl rfl (Nat.le_of_ble_eq_true rfl) (by decide) (by decide) (Nat.le_refl _) (Nat.le_refl _) dX7_powerNeeded_33 (fun v33 hv33 => ?_)
      refine aw_if_ne (tgt := 42) dX7_powerNeeded_36 (by decide) (by first | assumption | omega) (fun c36 => ?_) (fun c36 => ?_)
      · refine aw_iconst dX7_powerNeeded_42 ?_
        refine aw_istore_n (i := 3) (lv' := [(0, .ref 58), (1, iI w), (2, iI s), (3, iI 0)]) [1, 2, 3, 0] dX7_powerNeeded_43 rfl (by decide) rfl ?_
        refine aw_iconst dX7_powerNeeded_44 ?_
        refine aw_istore (i := 4) (lv' := [(0, .ref 58), (1, iI w), (2, iI s), (3, iI 0), (4, iI 0)]) [1, 2, 3, 4, 0] dX7_powerNeeded_45 (by decide) rfl ?_
        exact l_mneed1 hR hB hp ⟨by omega, by omega⟩ (by omega) ⟨by omega, by omega⟩ ((mi 73 w).toNat + 1) 0 0 0 ⟨Or.inl rfl, by omega, fun k b hk => by omega⟩ rfl (by omega) (by omega)
      · refine aw_bipush (x := -3) dX7_powerNeeded_39 rfl ?_
        exact aw_iret ⟨_, rfl, rfl, rfl, rfl, Or.inr ⟨by omega, Or.inr ⟨by omega, Or.inl ⟨by omega, rfl⟩⟩⟩⟩ (Nat.le_refl _) (Nat.le_refl _) dX7_powerNeeded_41
    · refine aw_bipush (x := -9) dX7_powerNeeded_24 rfl ?_
      exact aw_iret ⟨_, rfl, rfl, rfl, rfl, Or.inr ⟨by omega, Or.inl ⟨by omega, rfl⟩⟩⟩ (Nat.le_refl _) (Nat.le_refl _) dX7_powerNeeded_26
  · refine aw_bipush (x := -2) dX7_powerNeeded_12 rfl ?_
    exact aw_iret ⟨_, rfl, rfl, rfl, rfl, Or.inl ⟨by omega, rfl⟩⟩ (Nat.le_refl _) (Nat.le_refl _) dX7_powerNeeded_14
theorem s_X7_powerNeeded {mr : aR} (hR : Rok mr) {mi : aM} {w s : Int} (h_w : -2147483648 ≤ w ∧ w ≤ 2147483647) (h_s : -2147483648 ≤ s ∧ s ≤ 2147483647) (hB : mB (aup mi 58 0 0)) (hp : pM (aup mi 58 0 0)) : SPg yX7_powerNeeded cX7_powerNeeded 7 (some .int) 3 [.ref 58, iI w, iI s] mi mr (Pi mr (fun r m => m = (aup mi 58 0 0) ∧ ((¬ (0 ≤ w ∧ w < 5) ∧ r = -2) ∨ ((0 ≤ w ∧ w < 5) ∧ (((aup mi 58 0 0) 73 w = 0 ∧ r = -9) ∨ ((aup mi 58 0 0) 73 w ≠ 0 ∧ ((¬ (1 ≤ s ∧ s ≤ 200) ∧ r = -3) ∨ ((1 ≤ s ∧ s ≤ 200) ∧ mxS (fun x => cnK (fun k => (aup mi 58 0 0) 72 (100 * w + k)) (dM (aup mi 58 0 0)) s x ((aup mi 58 0 0) 58 6).toNat ((aup mi 58 0 0) 73 w).toNat) (fun k => (aup mi 58 0 0) 72 (100 * w + k)) (dM (aup mi 58 0 0)) s ((aup mi 58 0 0) 58 6).toNat ((aup mi 58 0 0) 73 w).toNat r)))))))) := by
  refine SPg.int rfl (by decide +kernel) (Nat.le_of_ble_eq_true rfl) ?_
  show AWm RX7 cX7_powerNeeded 7 3 _ 0 [(0, .ref 58), (1, iI w), (2, iI s)] [] mi mr
  refine aw_aload_n (i := 0) (q := 0) dX7_powerNeeded_0 rfl rfl ?_
  refine aw_iconst dX7_powerNeeded_1 ?_
  refine aw_putIk 0 flX7_1 SH_58 (by decide) rfl rfl rfl (by decide) dX7_powerNeeded_2 ?_
  exact t_powerNeeded (mi := aup mi 58 0 0) hR h_w h_s hB hp
