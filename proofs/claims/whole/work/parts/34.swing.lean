-- part 34: shake, greatestShake, startSwing, calmestWait (printed by wip/whole/gen/p34.py)
/-- all but the rows and the imagined bell stays -/
def frS (mi m : aM) : Prop := ∀ (x : Nat) (j : Int), x ≠ 3 → x ≠ 25 → x ≠ 26 → m x j = mi x j
/-- the force of the bell b if its swinging starts now, k ticks behind -/
def stF (mi : aM) (b g : Int) (k : Nat) : Int := fK (mi (28 + b.toNat) 2) 1 g (mi (28 + b.toNat) 3) (1, 0, 1, mi 1 13) (mi 1 13) k
/-- the greatest shake of 601 ticks if the bell starts in w ticks -/
def gsW (mi : aM) (b g : Int) (w : Nat) : Int := mxA (fun k => shC mi (mi 1 13) (w + k) (mi 1 11).toNat + stF mi b g k) 601
def stB (m : aM) (a : Nat) (t g : Int) : aM := aup (aup (aup (aup (aup (aup m a 6 1) a 7 1) a 8 0) a 9 1) a 10 g) a 11 t
theorem stB_o {m : aM} {a x : Nat} {t g : Int} (h : x ≠ a) (j : Int) : stB m a t g x j = m x j := by
  unfold stB
  rw [aup_a h, aup_a h, aup_a h, aup_a h, aup_a h, aup_a h]
theorem stB_k {m : aM} {a : Nat} {t g : Int} {j : Int} (h : j < 6 ∨ 11 < j) (x : Nat) : stB m a t g x j = m x j := by
  unfold stB
  rw [aup_k (by omega), aup_k (by omega), aup_k (by omega), aup_k (by omega), aup_k (by omega), aup_k (by omega)]
theorem stB_v (m : aM) (a : Nat) (t g : Int) : stB m a t g a 6 = 1 ∧ stB m a t g a 7 = 1 ∧ stB m a t g a 8 = 0 ∧ stB m a t g a 9 = 1 ∧ stB m a t g a 10 = g ∧ stB m a t g a 11 = t := by
  unfold stB
  simp [aup]
theorem stF_rng {mi : aM} (h : cB mi) {b g : Int} (hb : 0 ≤ b ∧ b < 12) (hg : 1 ≤ g ∧ g ≤ 1000) (k : Nat) : -1000 ≤ stF mi b g k ∧ stF mi b g k ≤ 1000 := by
  have hk := (h.2.2 b.toNat (by omega)).1
  exact fK_rng hk.2.2.1 hk.2.2.2.1 ⟨Or.inr rfl, ⟨by show (0 : Int) ≤ 0; omega, by show (0 : Int) ≤ 1000; omega⟩, Or.inl rfl⟩ (by omega) (fun _ => ⟨Int.le_refl _, by show mi 1 13 ≤ mi 1 13 + mi (28 + b.toNat) 3; have := hk.2.2.2.1; omega⟩) k
theorem gsW_rng {mi : aM} (h : cB mi) {b g : Int} (hb : 0 ≤ b ∧ b < 12) (hg : 1 ≤ g ∧ g ≤ 1000) (w : Nat) : 0 ≤ gsW mi b g w ∧ gsW mi b g w ≤ 13000 := by
  refine ⟨mxA_nn _ _, mxA_le (by decide) (fun k hk => ?_)⟩
  have h1 := shC_rng h (w + k) (mi 1 11).toNat (by have := h.1; omega)
  have h2 := stF_rng h hb hg k
  have h3 := h.1
  omega
theorem s_X6_shake {mr : aR} (hR : Rok mr) {mi : aM} {k : Int} (h_k : -2147483648 ≤ k ∧ k ≤ 2147483647) (hc : cB mi) : SPg yX6_shake cX6_shake 2 (some .int) 5 [.ref 1, iI k] mi mr (Pi mr (fun r m => frS mi m ∧ r = if 0 ≤ k ∧ k ≤ 600 then shC mi (mi 1 13) (k.toNat) (mi 1 11).toNat + 100000 else -3)) := by
  refine SPg.int rfl (by decide +kernel) (Nat.le_of_ble_eq_true rfl) ?_
  show AWm RX6 cX6_shake 2 5 _ 0 [(0, .ref 1), (1, iI k)] [] mi mr
  have hn := hc.1
  refine aw_iload_n (i := 1) (q := 1) dX6_shake_0 rfl rfl ?_
  refine aw_iconst dX6_shake_1 ?_
  refine aw_sipush (x := 600) dX6_shake_2 rfl ?_
  refine aw_cSp (As := [iI k, iI 0, iI 600]) (st := []) clX6_87 (s_X6_outside hR (by omega) (by omega) (by omega)) rfl rfl (Nat.le_of_ble_eq_true rfl) (by decide) (by decide) (Nat.le_refl _) (Nat.le_refl _) dX6_shake_5 (fun v5 hv5 => ?_)
  refine aw_if_eq (tgt := 14) dX6_shake_8 (by decide) (by first | assumption | omega) (fun c8 => ?_) (fun c8 => ?_)
  · refine aw_aload_n (i := 0) (q := 0) dX6_shake_14 rfl rfl ?_
    refine aw_iload_n (i := 1) (q := 1) dX6_shake_15 rfl rfl ?_
    refine aw_cVv (As := [iI k]) (st := []) clX6_264 (s_X6_foreseeShakes hR hc (by omega)) SH_1 rfl (by decide) rfl rfl (Nat.le_of_ble_eq_true rfl) (by decide) (by decide) (Nat.le_refl _) (Nat.le_refl _) dX6_shake_16 (fun m1 hm1 => ?_)
    have hrow := fsI_row hc (by omega) hm1
    refine aw_aload_n (i := 0) (q := 0) dX6_shake_19 rfl rfl ?_
    refine aw_getR (r := 25) flX6_56 SH_1 (by decide) rfl (rk_1_8 hR) dX6_shake_20 ?_
    refine aw_iload_n (i := 1) (q := 1) dX6_shake_23 rfl rfl ?_
    have hr9 := hrow k (by omega) (by omega)
    refine aw_ialdv (x := m1 25 k) SH_25 (by decide) ⟨by omega, by omega⟩ rfl dX6_shake_24 (fun r24 => ?_)
    refine aw_ldc (x := 100000) coX6_107 rfl dX6_shake_25 ?_
    refine aw_iadd dX6_shake_27 ?_
    exact aw_iret ⟨_, rfl, rfl, rfl, (fun x j a b _ => hm1.2.2 x j b a), by rw [if_pos (by omega), ← hm1.1 k (by omega) (Int.le_refl _)]⟩ (Nat.le_refl _) (Nat.le_refl _) dX6_shake_28
  · refine aw_bipush (x := -3) dX6_shake_11 rfl ?_
    exact aw_iret ⟨_, rfl, rfl, rfl, (fun _ _ _ _ _ => rfl), by rw [if_neg (by omega)]⟩ (Nat.le_refl _) (Nat.le_refl _) dX6_shake_13
theorem s_X6_greatestShake {mr : aR} (hR : Rok mr) {mi : aM} {k : Int} (h_k : -2147483648 ≤ k ∧ k ≤ 2147483647) (hc : cB mi) : SPg yX6_greatestShake cX6_greatestShake 2 (some .int) 5 [.ref 1, iI k] mi mr (Pi mr (fun r m => frS mi m ∧ r = if 0 ≤ k ∧ k ≤ 600 then mxA (fun j => shC mi (mi 1 13) (j) (mi 1 11).toNat) (k + 1).toNat else -3)) := by
  refine SPg.int rfl (by decide +kernel) (Nat.le_of_ble_eq_true rfl) ?_
  show AWm RX6 cX6_greatestShake 2 5 _ 0 [(0, .ref 1), (1, iI k)] [] mi mr
  have hn := hc.1
  refine aw_iload_n (i := 1) (q := 1) dX6_greatestShake_0 rfl rfl ?_
  refine aw_iconst dX6_greatestShake_1 ?_
  refine aw_sipush (x := 600) dX6_greatestShake_2 rfl ?_
  refine aw_cSp (As := [iI k, iI 0, iI 600]) (st := []) clX6_87 (s_X6_outside hR (by omega) (by omega) (by omega)) rfl rfl (Nat.le_of_ble_eq_true rfl) (by decide) (by decide) (Nat.le_refl _) (Nat.le_refl _) dX6_greatestShake_5 (fun v5 hv5 => ?_)
  refine aw_if_eq (tgt := 14) dX6_greatestShake_8 (by decide) (by first | assumption | omega) (fun c8 => ?_) (fun c8 => ?_)
  · refine aw_aload_n (i := 0) (q := 0) dX6_greatestShake_14 rfl rfl ?_
    refine aw_iload_n (i := 1) (q := 1) dX6_greatestShake_15 rfl rfl ?_
    refine aw_cVv (As := [iI k]) (st := []) clX6_264 (s_X6_foreseeShakes hR hc (by omega)) SH_1 rfl (by decide) rfl rfl (Nat.le_of_ble_eq_true rfl) (by decide) (by decide) (Nat.le_refl _) (Nat.le_refl _) dX6_greatestShake_16 (fun m1 hm1 => ?_)
    have hrow := fsI_row hc (by omega) hm1
    have hrw : ∀ j : Int, 0 ≤ j → j < 720 → -100000 ≤ m1 25 j ∧ m1 25 j ≤ 100000 := fun j a b => by have := hrow j a b; omega
    refine aw_aload_n (i := 0) (q := 0) dX6_greatestShake_19 rfl rfl ?_
    refine aw_iload_n (i := 1) (q := 1) dX6_greatestShake_20 rfl rfl ?_
    refine aw_cVp (As := [iI k]) (st := []) clX6_278 (s_X6_greatestUpTo (mi := m1) hR (by omega) hrw) SH_1 rfl (by decide) rfl rfl (Nat.le_of_ble_eq_true rfl) (by decide) (by decide) (Nat.le_refl _) (Nat.le_refl _) dX6_greatestShake_21 (fun v21 hv21 => ?_)
    exact aw_iret ⟨_, rfl, rfl, rfl, (fun x j a b _ => hm1.2.2 x j b a), by rw [if_pos (by omega), hv21]; exact mxA_congr (fun j hj => by have e9 := hm1.1 (j : Int) (by omega) (by omega); rw [Int.toNat_natCast] at e9; exact e9)⟩ (Nat.le_refl _) (Nat.le_refl _) dX6_greatestShake_24
  · refine aw_bipush (x := -3) dX6_greatestShake_11 rfl ?_
    exact aw_iret ⟨_, rfl, rfl, rfl, (fun _ _ _ _ _ => rfl), by rw [if_neg (by omega)]⟩ (Nat.le_refl _) (Nat.le_refl _) dX6_greatestShake_13
theorem s_X6_startSwing {mr : aR} (hR : Rok mr) {mi : aM} {b g : Int} (h_b : -2147483648 ≤ b ∧ b ≤ 2147483647) (h_g : -2147483648 ≤ g ∧ g ≤ 2147483647) (hc : cB mi) (ho : sOk mi 8) (hsl : 0 ≤ mi 1 15 ∧ mi 1 15 ≤ 100000) (ht0 : ∀ i : Int, 0 ≤ i → i < mi 8 4 → 0 ≤ mi 11 i) : SPg yX6_startSwing cX6_startSwing 3 (some .int) 5 [.ref 1, iI b, iI g] mi mr (Pi mr (fun r m => (¬ (0 ≤ b ∧ b < mi 1 11) ∧ r = -2 ∧ frS mi m) ∨ ((0 ≤ b ∧ b < mi 1 11) ∧ ((¬ (1 ≤ g ∧ g ≤ 1000) ∧ r = -3 ∧ frS mi m) ∨ ((1 ≤ g ∧ g ≤ 1000) ∧ ((mi (28 + b.toNat) 6 ≠ 0 ∧ r = -6 ∧ frS mi m) ∨ (mi (28 + b.toNat) 6 = 0 ∧ ((¬ (∀ i : Int, 0 ≤ i → i < mi 8 4 → mi 9 i ≠ b) ∧ r = -10 ∧ frS mi m) ∨ ((∀ i : Int, 0 ≤ i → i < mi 8 4 → mi 9 i ≠ b) ∧ ((mi 1 15 < gsW mi b g 0 ∧ r = -11 ∧ frS mi m) ∨ (gsW mi b g 0 ≤ mi 1 15 ∧ r = mi 1 13 + mi (28 + b.toNat) 3 ∧ frS (stB mi (28 + b.toNat) (mi 1 13) g) m))))))))))) := by
  refine SPg.int rfl (by decide +kernel) (Nat.le_of_ble_eq_true rfl) ?_
  show AWm RX6 cX6_startSwing 3 5 _ 0 [(0, .ref 1), (1, iI b), (2, iI g)] [] mi mr
  have hn := hc.1
  have hnw := hc.2.1
  refine aw_aload_n (i := 0) (q := 0) dX6_startSwing_0 rfl rfl ?_
  refine aw_iload_n (i := 1) (q := 1) dX6_startSwing_1 rfl rfl ?_
  refine aw_cVp (As := [iI b]) (st := []) clX6_103 (s_X6_isBell hR (by omega)) SH_1 rfl (by decide) rfl rfl (Nat.le_of_ble_eq_true rfl) (by decide) (by decide) (Nat.le_refl _) (Nat.le_refl _) dX6_startSwing_2 (fun v2 hv2 => ?_)
  refine aw_if_ne (tgt := 11) dX6_startSwing_5 (by decide) (by first | assumption | omega) (fun c5 => ?_) (fun c5 => ?_)
  · refine aw_iload_n (i := 2) (q := 2) dX6_startSwing_11 rfl rfl ?_
    refine aw_iconst dX6_startSwing_12 ?_
    refine aw_sipush (x := 1000) dX6_startSwing_13 rfl ?_
    refine aw_cSp (As := [iI g, iI 1, iI 1000]) (st := []) clX6_87 (s_X6_outside hR (by omega) (by omega) (by omega)) rfl rfl (Nat.le_of_ble_eq_true rfl) (by decide) (by decide) (Nat.le_refl _) (Nat.le_refl _) dX6_startSwing_16 (fun v16 hv16 => ?_)
    refine aw_if_eq (tgt := 25) dX6_startSwing_19 (by decide) (by first | assumption | omega) (fun c19 => ?_) (fun c19 => ?_)
    · obtain ⟨hk, hk11, hkw⟩ := hc.2.2 b.toNat (by omega)
      have hkh := hk.2.2.2.1
      have hkw2 := hk.2.2.1
      refine aw_aload_n (i := 0) (q := 0) dX6_startSwing_25 rfl rfl ?_
      refine aw_getR (r := 2) flX6_11 SH_1 (by decide) rfl (rk_1_0 hR) dX6_startSwing_26 ?_
      refine aw_iload_n (i := 1) (q := 1) dX6_startSwing_29 rfl rfl ?_
      refine aw_aald (r := 28 + (b).toNat) SH_2 (by decide) (by decide) ⟨by omega, by omega⟩ (hR.2.1 _ (by omega) (by omega)) dX6_startSwing_30 ?_
      refine aw_getIk (x := mi (28 + (b).toNat) 6) 6 flX6_162 (SH_bell ⟨by omega, by omega⟩) ⟨by omega, by omega⟩ rfl rfl rfl dX6_startSwing_31 (fun r31 => ?_)
      refine aw_if_eq (tgt := 40) dX6_startSwing_34 (by decide) (by first | assumption | omega) (fun c34 => ?_) (fun c34 => ?_)
      · refine aw_aload_n (i := 0) (q := 0) dX6_startSwing_40 rfl rfl ?_
        refine aw_getR (r := 8) flX6_30 SH_1 (by decide) rfl (rk_1_3 hR) dX6_startSwing_41 ?_
        refine aw_iload_n (i := 1) (q := 1) dX6_startSwing_44 rfl rfl ?_
        refine aw_cVp (As := [iI b]) (st := []) clX6_155 (s_X4_firstTimeOf hR (Or.inl rfl) ho (by omega)) SH_8 rfl (by decide) rfl rfl (Nat.le_of_ble_eq_true rfl) (by decide) (by decide) (Nat.le_refl _) (Nat.le_refl _) dX6_startSwing_45 (fun v45 hv45 => ?_)
        have h45a : v45 = -1 → ∀ i : Int, 0 ≤ i → i < mi 8 4 → mi 9 i ≠ b := fun q0 => by
          rcases hv45 with ⟨k, k0, k1, k2, k3, -⟩ | ⟨-, q9⟩
          · have h9 := (ho.2.1 k k0 k1).2; have h8 := ht0 k k0 k1; have h7 : mi (8 + 3) k = mi 11 k := rfl; have h6 : v45 = mi 11 k := k3; omega
          · exact q9
        have h45b : v45 ≠ -1 → ¬ (∀ i : Int, 0 ≤ i → i < mi 8 4 → mi 9 i ≠ b) := fun q0 q => by
          rcases hv45 with ⟨k, k0, k1, k2, k3, -⟩ | ⟨q9, -⟩
          · exact q k k0 k1 k2
          · exact q0 q9
        have h45r : -1 ≤ v45 ∧ v45 ≤ 1000000 := by
          rcases hv45 with ⟨k, k0, k1, k2, k3, -⟩ | ⟨q9, -⟩
          · have h9 := (ho.2.1 k k0 k1).2; have h8 := ht0 k k0 k1; have h7 : mi (8 + 3) k = mi 11 k := rfl; omega
          · omega
        clear hv45
        refine aw_iconst dX6_startSwing_48 ?_
        refine aw_icmp_eq (tgt := 55) dX6_startSwing_49 (by decide) (by first | assumption | omega) (by decide) (fun c49 => ?_) (fun c49 => ?_)
        · have hns := h45a (by omega)
          refine aw_aload_n (i := 0) (q := 0) dX6_startSwing_55 rfl rfl ?_
          refine aw_sipush (x := 600) dX6_startSwing_56 rfl ?_
          refine aw_cVv (As := [iI 600]) (st := []) clX6_264 (s_X6_foreseeShakes hR hc (by omega)) SH_1 rfl (by decide) rfl rfl (Nat.le_of_ble_eq_true rfl) (by decide) (by decide) (Nat.le_refl _) (Nat.le_refl _) dX6_startSwing_59 (fun m1 hm1 => ?_)
          have hrow := fsI_row hc (by omega) hm1
          have hb1 : ∀ j : Int, m1 (28 + b.toNat) j = mi (28 + b.toNat) j := fun j => hm1.2.2 _ _ (by omega) (by omega)
          refine aw_aload_n (i := 0) (q := 0) dX6_startSwing_62 rfl rfl ?_
          refine aw_getR (r := 3) flX6_16 SH_1 (by decide) rfl (rk_1_1 hR) dX6_startSwing_63 ?_
          refine aw_aload_n (i := 0) (q := 0) dX6_startSwing_66 rfl rfl ?_
          refine aw_getR (r := 2) flX6_11 SH_1 (by decide) rfl (rk_1_0 hR) dX6_startSwing_67 ?_
          refine aw_iload_n (i := 1) (q := 1) dX6_startSwing_70 rfl rfl ?_
          refine aw_aald (r := 28 + (b).toNat) SH_2 (by decide) (by decide) ⟨by omega, by omega⟩ (hR.2.1 _ (by omega) (by omega)) dX6_startSwing_71 ?_
          refine aw_cVv (As := [.ref (28 + (b).toNat)]) (st := []) clX6_267 (s_X0_copyFrom (mi := m1) hR SH_3 (by decide) (SH_bell ⟨by omega, by omega⟩) ⟨by omega, by omega⟩ (by omega) (by rw [hb1]; exact hk.2.2.2.2.2.2.1) (by rw [hb1]; exact hk.2.2.2.2.2.2.2.1)) SH_3 rfl (by decide) rfl rfl (Nat.le_of_ble_eq_true rfl) (by decide) (by decide) (Nat.le_refl _) (Nat.le_refl _) dX6_startSwing_72 (fun m2 hm2 => ?_)
          obtain ⟨e2, e3, e6, e7, e8, e9, e10, e11, ef⟩ := hm2
          rw [hb1] at e2 e3
          have g2 : ∀ (x : Nat) (j : Int), x ≠ 3 → m2 x j = m1 x j := fun x j hx => ef x j (Or.inl hx)
          have g13 : m2 1 13 = mi 1 13 := by rw [g2 1 13 (by decide)]; exact hm1.2.2 _ _ (by decide) (by decide)
          refine aw_aload_n (i := 0) (q := 0) dX6_startSwing_75 rfl rfl ?_
          refine aw_getR (r := 3) flX6_16 SH_1 (by decide) rfl (rk_1_1 hR) dX6_startSwing_76 ?_
          refine aw_aload_n (i := 0) (q := 0) dX6_startSwing_79 rfl rfl ?_
          refine aw_getIk (x := m2 1 13) 13 flX6_73 SH_1 (by decide) rfl rfl rfl dX6_startSwing_80 (fun r80 => ?_)
          refine aw_iload_n (i := 2) (q := 2) dX6_startSwing_83 rfl rfl ?_
          refine aw_cVv (As := [iI (m2 1 13), iI g]) (st := []) clX6_270 (s_X0_start (mi := m2) hR SH_3 (by decide) (by omega) (by omega)) SH_3 rfl (by decide) rfl rfl (Nat.le_of_ble_eq_true rfl) (by decide) (by decide) (Nat.le_refl _) (Nat.le_refl _) dX6_startSwing_84 (fun m3 hm3 => ?_)
          have hq3 : m3 = stB m2 3 (mi 1 13) g := by rw [hm3, g13]; rfl
          clear hm3
          have e32 : m3 3 2 = mi (28 + b.toNat) 2 := by rw [hq3, stB_k (by decide)]; exact e2
          have e33 : m3 3 3 = mi (28 + b.toNat) 3 := by rw [hq3, stB_k (by decide)]; exact e3
          have hsv := stB_v m2 3 (mi 1 13) g
          rw [← hq3] at hsv
          obtain ⟨s6, s7, s8, s9, s10, s11⟩ := hsv
          have g3 : ∀ (x : Nat) (j : Int), x ≠ 3 → m3 x j = m1 x j := fun x j hx => by rw [hq3, stB_o hx]; exact g2 x j hx
          have g133 : m3 1 13 = mi 1 13 := by rw [g3 1 13 (by decide)]; exact hm1.2.2 _ _ (by decide) (by decide)
          refine aw_aload_n (i := 0) (q := 0) dX6_startSwing_87 rfl rfl ?_
          refine aw_getR (r := 3) flX6_16 SH_1 (by decide) rfl (rk_1_1 hR) dX6_startSwing_88 ?_
          have hrow3 : ∀ j : Int, 0 ≤ j → j < 720 → -100000 ≤ m3 25 j ∧ m3 25 j ≤ 100000 := fun j a c => by rw [g3 25 j (by decide)]; have := hrow j a c; omega
          refine aw_aload_n (i := 0) (q := 0) dX6_startSwing_91 rfl rfl ?_
          refine aw_getR (r := 25) flX6_56 SH_1 (by decide) rfl (rk_1_8 hR) dX6_startSwing_92 ?_
          refine aw_aload_n (i := 0) (q := 0) dX6_startSwing_95 rfl rfl ?_
          refine aw_getIk (x := m3 1 13) 13 flX6_73 SH_1 (by decide) rfl rfl rfl dX6_startSwing_96 (fun r96 => ?_)
          refine aw_sipush (x := 600) dX6_startSwing_99 rfl ?_
          refine aw_cVv (As := [.ref 25, iI (m3 1 13), iI 600]) (st := []) clX6_274 (s_X0_addForces (mi := m3) (r := 25) (zr := 720) hR ⟨⟨SH_3, by decide⟩, ⟨SH_25, by decide⟩, by decide, ⟨by omega, by omega, by omega, by omega⟩, by omega, hrow3⟩ (by decide) (by decide) ⟨Or.inr s6, by rw [show (bqOf m3 3).2.1 = m3 3 8 from rfl]; omega, Or.inl s9⟩ (by omega) (fun _ => by omega)) SH_3 rfl (by decide) rfl rfl (Nat.le_of_ble_eq_true rfl) (by decide) (by decide) (Nat.le_refl _) (Nat.le_refl _) dX6_startSwing_102 (fun m4 hm4 => ?_)
          obtain ⟨-, h4a, -, h4b, h4c, -⟩ := hm4
          have hbq : bqOf m3 3 = (1, 0, 1, mi 1 13) := by unfold bqOf; rw [s6, s8, s9, s11]
          rw [e32, s7, s10, e33, hbq, g133] at h4b
          have h4f : ∀ (x : Nat) (j : Int), x ≠ 3 → x ≠ 25 → m4 x j = mi x j := fun x j a c => by rw [h4a x j c (Or.inl a), g3 x j a]; exact hm1.2.2 x j c a
          have h413 : m4 1 13 = mi 1 13 := h4f _ _ (by decide) (by decide)
          have h415 : m4 1 15 = mi 1 15 := h4f _ _ (by decide) (by decide)
          have hrw : ∀ j : Int, 0 ≤ j → j < 720 → -100000 ≤ m4 25 j ∧ m4 25 j ≤ 100000 := fun j a c => by
            by_cases q : j < 600 + 1
            · rw [h4b j a q, g3 25 j (by decide)]; have := hrow j a c; have h9 := stF_rng hc (b := b) (g := g) (by omega) (by omega) j.toNat; unfold stF at h9; omega
            · rw [h4c j (Or.inr (by omega))]; exact hrow3 j a c
          refine aw_aload_n (i := 0) (q := 0) dX6_startSwing_105 rfl rfl ?_
          refine aw_sipush (x := 600) dX6_startSwing_106 rfl ?_
          refine aw_cVp (As := [iI 600]) (st := []) clX6_278 (s_X6_greatestUpTo (mi := m4) hR (by decide) hrw) SH_1 rfl (by decide) rfl rfl (Nat.le_of_ble_eq_true rfl) (by decide) (by decide) (Nat.le_refl _) (Nat.le_refl _) dX6_startSwing_109 (fun v109 hv109 => ?_)
          have hgs : v109 = gsW mi b g 0 := by
            rw [hv109]
            refine mxA_congr (fun j hj => ?_)
            have hj : j < 601 := hj
            have e9 := hm1.1 (j : Int) (by omega) (by omega)
            rw [h4b (j : Int) (by omega) (by omega), g3 25 _ (by decide), e9, Int.toNat_natCast, Nat.zero_add]
            rfl
          have hgr := gsW_rng hc (b := b) (g := g) (by omega) (by omega) 0
          refine aw_aload_n (i := 0) (q := 0) dX6_startSwing_112 rfl rfl ?_
          refine aw_getIk (x := m4 1 15) 15 flX6_79 SH_1 (by decide) rfl rfl rfl dX6_startSwing_113 (fun r113 => ?_)
          refine aw_icmp_le (tgt := 122) dX6_startSwing_116 (by decide) (by first | assumption | omega) (by first | assumption | omega) (fun c116 => ?_) (fun c116 => ?_)
          · refine aw_aload_n (i := 0) (q := 0) dX6_startSwing_122 rfl rfl ?_
            refine aw_getR (r := 2) flX6_11 SH_1 (by decide) rfl (rk_1_0 hR) dX6_startSwing_123 ?_
            refine aw_iload_n (i := 1) (q := 1) dX6_startSwing_126 rfl rfl ?_
            refine aw_aald (r := 28 + (b).toNat) SH_2 (by decide) (by decide) ⟨by omega, by omega⟩ (hR.2.1 _ (by omega) (by omega)) dX6_startSwing_127 ?_
            refine aw_aload_n (i := 0) (q := 0) dX6_startSwing_128 rfl rfl ?_
            refine aw_getIk (x := m4 1 13) 13 flX6_73 SH_1 (by decide) rfl rfl rfl dX6_startSwing_129 (fun r129 => ?_)
            refine aw_iload_n (i := 2) (q := 2) dX6_startSwing_132 rfl rfl ?_
            refine aw_cVv (As := [iI (m4 1 13), iI g]) (st := []) clX6_270 (s_X0_start (mi := m4) hR (SH_bell ⟨by omega, by omega⟩) ⟨by omega, by omega⟩ (by omega) (by omega)) (SH_bell ⟨by omega, by omega⟩) rfl ⟨by omega, by omega⟩ rfl rfl (Nat.le_of_ble_eq_true rfl) (by decide) (by decide) (Nat.le_refl _) (Nat.le_refl _) dX6_startSwing_133 (fun m5 hm5 => ?_)
            have hq5 : m5 = stB m4 (28 + b.toNat) (mi 1 13) g := by rw [hm5, h413]; rfl
            have hsv5 := stB_v m4 (28 + b.toNat) (mi 1 13) g
            rw [← hq5] at hsv5
            have h53 : m5 (28 + b.toNat) 3 = mi (28 + b.toNat) 3 := by rw [hq5, stB_k (by decide)]; exact h4f _ _ (by omega) (by omega)
            refine aw_aload_n (i := 0) (q := 0) dX6_startSwing_136 rfl rfl ?_
            refine aw_getR (r := 2) flX6_11 SH_1 (by decide) rfl (rk_1_0 hR) dX6_startSwing_137 ?_
            refine aw_iload_n (i := 1) (q := 1) dX6_startSwing_140 rfl rfl ?_
            refine aw_aald (r := 28 + (b).toNat) SH_2 (by decide) (by decide) ⟨by omega, by omega⟩ (hR.2.1 _ (by omega) (by omega)) dX6_startSwing_141 ?_
            refine aw_cVp (As := []) (st := []) clX6_281 (s_X0_turnTime (mi := m5) hR (SH_bell ⟨by omega, by omega⟩) ⟨by omega, by omega⟩) (SH_bell ⟨by omega, by omega⟩) rfl ⟨by omega, by omega⟩ rfl rfl (Nat.le_of_ble_eq_true rfl) (by decide) (by decide) (Nat.le_refl _) (Nat.le_refl _) dX6_startSwing_142 (fun v142 hv142 => ?_)
            exact aw_iret ⟨_, rfl, rfl, rfl, Or.inr ⟨by omega, Or.inr ⟨by omega, Or.inr ⟨by omega, Or.inr ⟨hns, Or.inr ⟨by omega, by omega, fun x j a c _ => by rw [hq5]; by_cases e9 : x = 28 + b.toNat; (subst e9; unfold stB aup; (repeat' split) <;> first | rfl | exact h4f _ _ a c); (rw [stB_o e9, stB_o e9]; exact h4f x j a c)⟩⟩⟩⟩⟩⟩ (Nat.le_refl _) (Nat.le_refl _) dX6_startSwing_145
          · refine aw_bipush (x := -11) dX6_startSwing_119 rfl ?_
            exact aw_iret ⟨_, rfl, rfl, rfl, Or.inr ⟨by omega, Or.inr ⟨by omega, Or.inr ⟨by omega, Or.inr ⟨hns, Or.inl ⟨by omega, rfl, fun x j a c _ => h4f x j a c⟩⟩⟩⟩⟩⟩ (Nat.le_refl _) (Nat.le_refl _) dX6_startSwing_121
        · have hns := h45b (by omega)
          refine aw_bipush (x := -10) dX6_startSwing_52 rfl ?_
          exact aw_iret ⟨_, rfl, rfl, rfl, Or.inr ⟨by omega, Or.inr ⟨by omega, Or.inr ⟨by omega, Or.inl ⟨hns, rfl, fun _ _ _ _ _ => rfl⟩⟩⟩⟩⟩ (Nat.le_refl _) (Nat.le_refl _) dX6_startSwing_54
      · refine aw_bipush (x := -6) dX6_startSwing_37 rfl ?_
        exact aw_iret ⟨_, rfl, rfl, rfl, Or.inr ⟨by omega, Or.inr ⟨by omega, Or.inl ⟨by omega, rfl, fun _ _ _ _ _ => rfl⟩⟩⟩⟩ (Nat.le_refl _) (Nat.le_refl _) dX6_startSwing_39
    · refine aw_bipush (x := -3) dX6_startSwing_22 rfl ?_
      exact aw_iret ⟨_, rfl, rfl, rfl, Or.inr ⟨by omega, Or.inl ⟨by omega, rfl, fun _ _ _ _ _ => rfl⟩⟩⟩ (Nat.le_refl _) (Nat.le_refl _) dX6_startSwing_24
  · refine aw_bipush (x := -2) dX6_startSwing_8 rfl ?_
    exact aw_iret ⟨_, rfl, rfl, rfl, Or.inl ⟨by omega, rfl, fun _ _ _ _ _ => rfl⟩⟩ (Nat.le_refl _) (Nat.le_refl _) dX6_startSwing_10
theorem l_calm {mr : aR} (hR : Rok mr) {mi m : aM} {b g : Int} (hf : frS mi m) (hc : cB mi) (hb : 0 ≤ b ∧ b < mi 1 11) (hg : 1 ≤ g ∧ g ≤ 1000) (hsw : mi (28 + b.toNat) 6 = 0) (hh : 10 ≤ mi (28 + b.toNat) 3 ∧ mi (28 + b.toNat) 3 ≤ 60) (hr25 : ∀ j : Int, 0 ≤ j → j < 720 → -100000 ≤ m 25 j ∧ m 25 j ≤ 100000) (hr26 : ∀ j : Int, 0 ≤ j → j < 601 → -100000 ≤ m 26 j ∧ m 26 j ≤ 100000) (hG : ∀ w : Int, 0 ≤ w → w ≤ 2 * mi (28 + b.toNat) 3 - 1 → mxA (fun k => m 25 (w + k) + m 26 k) 601 = gsW mi b g (w.toNat)) : ∀ (n : Nat) (c9 l9 z : Int), ((z = 0 ∧ l9 = 1000000 ∧ c9 = 0) ∨ (1 ≤ z ∧ (0 ≤ c9 ∧ c9 < z) ∧ l9 = gsW mi b g (c9.toNat))) → (∀ j : Nat, (j : Int) < c9 → l9 < gsW mi b g (j)) → (∀ j : Nat, (j : Int) < z → l9 ≤ gsW mi b g (j)) → (0 ≤ l9 ∧ l9 ≤ 1000000) → (0 ≤ z ∧ z ≤ 2 * mi (28 + b.toNat) 3 - 1 + 1) → 2 * mi (28 + b.toNat) 3 - 1 + 1 - z < n → AWm RX6 cX6_calmestWait 8 5 (Pi mr (fun r m => frS mi m ∧ ((¬ (0 ≤ b ∧ b < mi 1 11) ∧ r = -2) ∨ ((0 ≤ b ∧ b < mi 1 11) ∧ ((¬ (1 ≤ g ∧ g ≤ 1000) ∧ r = -3) ∨ ((1 ≤ g ∧ g ≤ 1000) ∧ ((mi (28 + b.toNat) 6 ≠ 0 ∧ r = -6) ∨ (mi (28 + b.toNat) 6 = 0 ∧ (0 ≤ r ∧ r ≤ 2 * mi (28 + b.toNat) 3 - 1) ∧ (∀ j : Nat, (j : Int) < r → gsW mi b g (r.toNat) < gsW mi b g (j)) ∧ ∀ j : Nat, (j : Int) ≤ 2 * mi (28 + b.toNat) 3 - 1 → gsW mi b g (r.toNat) ≤ gsW mi b g (j))))))))) 124 [(0, .ref 1), (1, iI b), (2, iI g), (3, iI (2 * mi (28 + b.toNat) 3 - 1)), (4, iI c9), (5, iI l9), (6, iI z)] [] m mr := by
  intro n
  induction n with
  | zero => intro c9 l9 z k1 k2 k3 k4 h2 h3; omega
  | succ n ih =>
    intro c9 l9 z k1 k2 k3 k4 h2 h3
    have hn := hc.1
    refine aw_iload (i := 6) (q := 6) dX6_calmestWait_124 rfl ?_
    refine aw_iload_n (i := 3) (q := 3) dX6_calmestWait_126 rfl rfl ?_
    refine aw_icmp_gt (tgt := 161) dX6_calmestWait_127 (by decide) (by first | assumption | omega) (by first | assumption | omega) (fun c127 => ?_) (fun c127 => ?_)
    · refine aw_iload (i := 4) (q := 4) dX6_calmestWait_161 rfl ?_
      exact aw_iret ⟨_, rfl, rfl, rfl, hf, Or.inr ⟨hb, Or.inr ⟨hg, Or.inr ⟨hsw, ⟨by omega, by omega⟩, (fun j hj => by have := k2 j hj; omega), (fun j hj => by have := k3 j (by omega); omega)⟩⟩⟩⟩ (Nat.le_refl _) (Nat.le_refl _) dX6_calmestWait_163
    · refine aw_aload_n (i := 0) (q := 0) dX6_calmestWait_130 rfl rfl ?_
      refine aw_iload (i := 6) (q := 6) dX6_calmestWait_131 rfl ?_
      refine aw_iload (i := 5) (q := 5) dX6_calmestWait_133 rfl ?_
      refine aw_cVp (As := [iI z, iI l9]) (st := []) clX6_304 (s_X6_greatestIfStartedAfter hR ⟨by omega, by omega⟩ (by omega) hr25 hr26) SH_1 rfl (by decide) rfl rfl (Nat.le_of_ble_eq_true rfl) (by decide) (by decide) (Nat.le_refl _) (Nat.le_refl _) dX6_calmestWait_135 (fun v135 hv135 => ?_)
      have hg9 := hG z (by omega) (by omega)
      have hgr := gsW_rng hc (b := b) (g := g) (by omega) (by omega) z.toNat
      rw [hg9] at hv135
      have hv8 : (v135 = gsW mi b g (z.toNat) ∧ v135 < l9) ∨ ((l9 ≤ v135 ∧ v135 ≤ 2000000) ∧ l9 ≤ gsW mi b g (z.toNat)) := hv135
      refine aw_istore (i := 7) (lv' := [(0, .ref 1), (1, iI b), (2, iI g), (3, iI (2 * mi (28 + b.toNat) 3 - 1)), (4, iI c9), (5, iI l9), (6, iI z), (7, iI v135)]) [1, 2, 3, 4, 5, 6, 7, 0] dX6_calmestWait_138 (by decide) rfl ?_
      refine aw_sub (lv' := [(0, .ref 1), (1, iI b), (2, iI g), (3, iI (2 * mi (28 + b.toNat) 3 - 1)), (4, iI c9), (5, iI l9), (6, iI z), (7, iI v135)]) [0, 1, 2, 3, 4, 5, 6, 7] rfl ?_
      refine aw_iload (i := 7) (q := 7) dX6_calmestWait_140 rfl ?_
      refine aw_iload (i := 5) (q := 5) dX6_calmestWait_142 rfl ?_
      refine aw_icmp_ge (tgt := 155) dX6_calmestWait_144 (by decide) (by first | assumption | omega) (by first | assumption | omega) (fun c144 => ?_) (fun c144 => ?_)
      · refine aw_sub (lv' := [(0, .ref 1), (1, iI b), (2, iI g), (3, iI (2 * mi (28 + b.toNat) 3 - 1)), (4, iI c9), (5, iI l9), (6, iI z)]) [0, 1, 2, 3, 4, 5, 6] rfl ?_
        refine aw_iinc (i := 6) (q := 6) (x := z) (lv' := [(0, .ref 1), (1, iI b), (2, iI g), (3, iI (2 * mi (28 + b.toNat) 3 - 1)), (4, iI c9), (5, iI l9), (6, iI (z + 1))]) [1, 2, 3, 4, 5, 6, 0] dX6_calmestWait_155 rfl (by decide) rfl ?_
        refine aw_goto (tgt := 124) dX6_calmestWait_158 (by decide) ?_
        exact ih c9 l9 (z + 1) (by omega) k2 (fun j hj => by by_cases e9 : j = z.toNat; (subst e9; omega); (exact k3 j (by omega))) k4 (by omega) (by omega)
      · refine aw_iload (i := 7) (q := 7) dX6_calmestWait_147 rfl ?_
        refine aw_istore (i := 5) (lv' := [(0, .ref 1), (1, iI b), (2, iI g), (3, iI (2 * mi (28 + b.toNat) 3 - 1)), (4, iI c9), (5, iI v135), (6, iI z), (7, iI v135)]) [1, 2, 3, 4, 5, 0, 6, 7] dX6_calmestWait_149 (by decide) rfl ?_
        refine aw_iload (i := 6) (q := 6) dX6_calmestWait_151 rfl ?_
        refine aw_istore (i := 4) (lv' := [(0, .ref 1), (1, iI b), (2, iI g), (3, iI (2 * mi (28 + b.toNat) 3 - 1)), (4, iI z), (5, iI v135), (6, iI z), (7, iI v135)]) [1, 2, 3, 4, 0, 5, 6, 7] dX6_calmestWait_153 (by decide) rfl ?_
        refine aw_sub (lv' := [(0, .ref 1), (1, iI b), (2, iI g), (3, iI (2 * mi (28 + b.toNat) 3 - 1)), (4, iI z), (5, iI v135), (6, iI z)]) [0, 1, 2, 3, 4, 5, 6] rfl ?_
        refine aw_iinc (i := 6) (q := 6) (x := z) (lv' := [(0, .ref 1), (1, iI b), (2, iI g), (3, iI (2 * mi (28 + b.toNat) 3 - 1)), (4, iI z), (5, iI v135), (6, iI (z + 1))]) [1, 2, 3, 4, 5, 6, 0] dX6_calmestWait_155 rfl (by decide) rfl ?_
        refine aw_goto (tgt := 124) dX6_calmestWait_158 (by decide) ?_
        have e8 : v135 = gsW mi b g (z.toNat) := by omega
        exact ih z v135 (z + 1) (by omega) (fun j hj => by have := k3 j hj; omega) (fun j hj => by by_cases e9 : j = z.toNat; (subst e9; omega); (have := k3 j (by omega); omega)) (by omega) (by omega) (by omega)
theorem s_X6_calmestWait {mr : aR} (hR : Rok mr) {mi : aM} {b g : Int} (h_b : -2147483648 ≤ b ∧ b ≤ 2147483647) (h_g : -2147483648 ≤ g ∧ g ≤ 2147483647) (hc : cB mi) : SPg yX6_calmestWait cX6_calmestWait 8 (some .int) 5 [.ref 1, iI b, iI g] mi mr (Pi mr (fun r m => frS mi m ∧ ((¬ (0 ≤ b ∧ b < mi 1 11) ∧ r = -2) ∨ ((0 ≤ b ∧ b < mi 1 11) ∧ ((¬ (1 ≤ g ∧ g ≤ 1000) ∧ r = -3) ∨ ((1 ≤ g ∧ g ≤ 1000) ∧ ((mi (28 + b.toNat) 6 ≠ 0 ∧ r = -6) ∨ (mi (28 + b.toNat) 6 = 0 ∧ (0 ≤ r ∧ r ≤ 2 * mi (28 + b.toNat) 3 - 1) ∧ (∀ j : Nat, (j : Int) < r → gsW mi b g (r.toNat) < gsW mi b g (j)) ∧ ∀ j : Nat, (j : Int) ≤ 2 * mi (28 + b.toNat) 3 - 1 → gsW mi b g (r.toNat) ≤ gsW mi b g (j))))))))) := by
  refine SPg.int rfl (by decide +kernel) (Nat.le_of_ble_eq_true rfl) ?_
  show AWm RX6 cX6_calmestWait 8 5 _ 0 [(0, .ref 1), (1, iI b), (2, iI g)] [] mi mr
  have hn := hc.1
  have hnw := hc.2.1
  refine aw_aload_n (i := 0) (q := 0) dX6_calmestWait_0 rfl rfl ?_
  refine aw_iload_n (i := 1) (q := 1) dX6_calmestWait_1 rfl rfl ?_
  refine aw_cVp (As := [iI b]) (st := []) clX6_103 (s_X6_isBell hR (by omega)) SH_1 rfl (by decide) rfl rfl (Nat.le_of_ble_eq_true rfl) (by decide) (by decide) (Nat.le_refl _) (Nat.le_refl _) dX6_calmestWait_2 (fun v2 hv2 => ?_)
  refine aw_if_ne (tgt := 11) dX6_calmestWait_5 (by decide) (by first | assumption | omega) (fun c5 => ?_) (fun c5 => ?_)
  · refine aw_iload_n (i := 2) (q := 2) dX6_calmestWait_11 rfl rfl ?_
    refine aw_iconst dX6_calmestWait_12 ?_
    refine aw_sipush (x := 1000) dX6_calmestWait_13 rfl ?_
    refine aw_cSp (As := [iI g, iI 1, iI 1000]) (st := []) clX6_87 (s_X6_outside hR (by omega) (by omega) (by omega)) rfl rfl (Nat.le_of_ble_eq_true rfl) (by decide) (by decide) (Nat.le_refl _) (Nat.le_refl _) dX6_calmestWait_16 (fun v16 hv16 => ?_)
    refine aw_if_eq (tgt := 25) dX6_calmestWait_19 (by decide) (by first | assumption | omega) (fun c19 => ?_) (fun c19 => ?_)
    · obtain ⟨hk, hk11, hkw⟩ := hc.2.2 b.toNat (by omega)
      have hkh := hk.2.2.2.1
      have hkw2 := hk.2.2.1
      refine aw_aload_n (i := 0) (q := 0) dX6_calmestWait_25 rfl rfl ?_
      refine aw_getR (r := 2) flX6_11 SH_1 (by decide) rfl (rk_1_0 hR) dX6_calmestWait_26 ?_
      refine aw_iload_n (i := 1) (q := 1) dX6_calmestWait_29 rfl rfl ?_
      refine aw_aald (r := 28 + (b).toNat) SH_2 (by decide) (by decide) ⟨by omega, by omega⟩ (hR.2.1 _ (by omega) (by omega)) dX6_calmestWait_30 ?_
      refine aw_getIk (x := mi (28 + (b).toNat) 6) 6 flX6_162 (SH_bell ⟨by omega, by omega⟩) ⟨by omega, by omega⟩ rfl rfl rfl dX6_calmestWait_31 (fun r31 => ?_)
      refine aw_if_eq (tgt := 40) dX6_calmestWait_34 (by decide) (by first | assumption | omega) (fun c34 => ?_) (fun c34 => ?_)
      · refine aw_iconst dX6_calmestWait_40 ?_
        refine aw_aload_n (i := 0) (q := 0) dX6_calmestWait_41 rfl rfl ?_
        refine aw_getR (r := 2) flX6_11 SH_1 (by decide) rfl (rk_1_0 hR) dX6_calmestWait_42 ?_
        refine aw_iload_n (i := 1) (q := 1) dX6_calmestWait_45 rfl rfl ?_
        refine aw_aald (r := 28 + (b).toNat) SH_2 (by decide) (by decide) ⟨by omega, by omega⟩ (hR.2.1 _ (by omega) (by omega)) dX6_calmestWait_46 ?_
        refine aw_getIk (x := mi (28 + (b).toNat) 3) 3 flX6_100 (SH_bell ⟨by omega, by omega⟩) ⟨by omega, by omega⟩ rfl rfl rfl dX6_calmestWait_47 (fun r47 => ?_)
        refine aw_imul dX6_calmestWait_50 ?_
        refine aw_iconst dX6_calmestWait_51 ?_
        refine aw_isub dX6_calmestWait_52 ?_
        refine aw_istore_n (i := 3) (lv' := [(0, .ref 1), (1, iI b), (2, iI g), (3, iI ((2 * (mi (28 + (b).toNat) 3)) - 1))]) [1, 2, 3, 0] dX6_calmestWait_53 rfl (by decide) rfl ?_
        refine aw_aload_n (i := 0) (q := 0) dX6_calmestWait_54 rfl rfl ?_
        refine aw_sipush (x := 600) dX6_calmestWait_55 rfl ?_
        refine aw_iload_n (i := 3) (q := 3) dX6_calmestWait_58 rfl rfl ?_
        refine aw_iadd dX6_calmestWait_59 ?_
        refine aw_cVv (As := [iI (600 + ((2 * (mi (28 + (b).toNat) 3)) - 1))]) (st := []) clX6_264 (s_X6_foreseeShakes hR hc (by omega)) SH_1 rfl (by decide) rfl rfl (Nat.le_of_ble_eq_true rfl) (by decide) (by decide) (Nat.le_refl _) (Nat.le_refl _) dX6_calmestWait_60 (fun m1 hm1 => ?_)
        have hrow := fsI_row hc (by omega) hm1
        have hb1 : ∀ j : Int, m1 (28 + b.toNat) j = mi (28 + b.toNat) j := fun j => hm1.2.2 _ _ (by omega) (by omega)
        refine aw_aload_n (i := 0) (q := 0) dX6_calmestWait_63 rfl rfl ?_
        refine aw_getR (r := 3) flX6_16 SH_1 (by decide) rfl (rk_1_1 hR) dX6_calmestWait_64 ?_
        refine aw_aload_n (i := 0) (q := 0) dX6_calmestWait_67 rfl rfl ?_
        refine aw_getR (r := 2) flX6_11 SH_1 (by decide) rfl (rk_1_0 hR) dX6_calmestWait_68 ?_
        refine aw_iload_n (i := 1) (q := 1) dX6_calmestWait_71 rfl rfl ?_
        refine aw_aald (r := 28 + (b).toNat) SH_2 (by decide) (by decide) ⟨by omega, by omega⟩ (hR.2.1 _ (by omega) (by omega)) dX6_calmestWait_72 ?_
        refine aw_cVv (As := [.ref (28 + (b).toNat)]) (st := []) clX6_267 (s_X0_copyFrom (mi := m1) hR SH_3 (by decide) (SH_bell ⟨by omega, by omega⟩) ⟨by omega, by omega⟩ (by omega) (by rw [hb1]; exact hk.2.2.2.2.2.2.1) (by rw [hb1]; exact hk.2.2.2.2.2.2.2.1)) SH_3 rfl (by decide) rfl rfl (Nat.le_of_ble_eq_true rfl) (by decide) (by decide) (Nat.le_refl _) (Nat.le_refl _) dX6_calmestWait_73 (fun m2 hm2 => ?_)
        obtain ⟨e2, e3, e6, e7, e8, e9, e10, e11, ef⟩ := hm2
        rw [hb1] at e2 e3
        have g2 : ∀ (x : Nat) (j : Int), x ≠ 3 → m2 x j = m1 x j := fun x j hx => ef x j (Or.inl hx)
        have g13 : m2 1 13 = mi 1 13 := by rw [g2 1 13 (by decide)]; exact hm1.2.2 _ _ (by decide) (by decide)
        refine aw_aload_n (i := 0) (q := 0) dX6_calmestWait_76 rfl rfl ?_
        refine aw_getR (r := 3) flX6_16 SH_1 (by decide) rfl (rk_1_1 hR) dX6_calmestWait_77 ?_
        refine aw_aload_n (i := 0) (q := 0) dX6_calmestWait_80 rfl rfl ?_
        refine aw_getIk (x := m2 1 13) 13 flX6_73 SH_1 (by decide) rfl rfl rfl dX6_calmestWait_81 (fun r81 => ?_)
        refine aw_iload_n (i := 2) (q := 2) dX6_calmestWait_84 rfl rfl ?_
        refine aw_cVv (As := [iI (m2 1 13), iI g]) (st := []) clX6_270 (s_X0_start (mi := m2) hR SH_3 (by decide) (by omega) (by omega)) SH_3 rfl (by decide) rfl rfl (Nat.le_of_ble_eq_true rfl) (by decide) (by decide) (Nat.le_refl _) (Nat.le_refl _) dX6_calmestWait_85 (fun m3 hm3 => ?_)
        have hq3 : m3 = stB m2 3 (mi 1 13) g := by rw [hm3, g13]; rfl
        clear hm3
        have e32 : m3 3 2 = mi (28 + b.toNat) 2 := by rw [hq3, stB_k (by decide)]; exact e2
        have e33 : m3 3 3 = mi (28 + b.toNat) 3 := by rw [hq3, stB_k (by decide)]; exact e3
        have hsv := stB_v m2 3 (mi 1 13) g
        rw [← hq3] at hsv
        obtain ⟨s6, s7, s8, s9, s10, s11⟩ := hsv
        have g3 : ∀ (x : Nat) (j : Int), x ≠ 3 → m3 x j = m1 x j := fun x j hx => by rw [hq3, stB_o hx]; exact g2 x j hx
        have g133 : m3 1 13 = mi 1 13 := by rw [g3 1 13 (by decide)]; exact hm1.2.2 _ _ (by decide) (by decide)
        refine aw_aload_n (i := 0) (q := 0) dX6_calmestWait_88 rfl rfl ?_
        refine aw_getR (r := 26) flX6_60 SH_1 (by decide) rfl (rk_1_9 hR) dX6_calmestWait_89 ?_
        refine aw_cSv (As := [.ref 26]) (st := []) clX6_299 (s_X6_clear (mi := m3) hR SH_26 (by decide) (by decide)) rfl rfl (Nat.le_of_ble_eq_true rfl) (by decide) (by decide) (Nat.le_refl _) (Nat.le_refl _) dX6_calmestWait_92 (fun m6 hm6 => ?_)
        have k6 : ∀ (x : Nat) (j : Int), x ≠ 26 → m6 x j = m3 x j := fun x j hx => hm6.2 x j (Or.inl hx)
        have e62 : m6 3 2 = mi (28 + b.toNat) 2 := by rw [k6 3 2 (by decide)]; exact e32
        have e63 : m6 3 3 = mi (28 + b.toNat) 3 := by rw [k6 3 3 (by decide)]; exact e33
        have t6 : m6 3 6 = 1 := by rw [k6 3 _ (by decide)]; exact s6
        have t7 : m6 3 7 = 1 := by rw [k6 3 _ (by decide)]; exact s7
        have t8 : m6 3 8 = 0 := by rw [k6 3 _ (by decide)]; exact s8
        have t9 : m6 3 9 = 1 := by rw [k6 3 _ (by decide)]; exact s9
        have t10 : m6 3 10 = g := by rw [k6 3 _ (by decide)]; exact s10
        have t11 : m6 3 11 = mi 1 13 := by rw [k6 3 _ (by decide)]; exact s11
        have h613 : m6 1 13 = mi 1 13 := by rw [k6 1 13 (by decide)]; exact g133
        have hrow6 : ∀ j : Int, 0 ≤ j → j < 601 → -100000 ≤ m6 26 j ∧ m6 26 j ≤ 100000 := fun j a c => by rw [hm6.1 j a c]; omega
        refine aw_aload_n (i := 0) (q := 0) dX6_calmestWait_95 rfl rfl ?_
        refine aw_getR (r := 3) flX6_16 SH_1 (by decide) rfl (rk_1_1 hR) dX6_calmestWait_96 ?_
        refine aw_aload_n (i := 0) (q := 0) dX6_calmestWait_99 rfl rfl ?_
        refine aw_getR (r := 26) flX6_60 SH_1 (by decide) rfl (rk_1_9 hR) dX6_calmestWait_100 ?_
        refine aw_aload_n (i := 0) (q := 0) dX6_calmestWait_103 rfl rfl ?_
        refine aw_getIk (x := m6 1 13) 13 flX6_73 SH_1 (by decide) rfl rfl rfl dX6_calmestWait_104 (fun r104 => ?_)
        refine aw_sipush (x := 600) dX6_calmestWait_107 rfl ?_
        refine aw_cVv (As := [.ref 26, iI (m6 1 13), iI 600]) (st := []) clX6_274 (s_X0_addForces (mi := m6) (r := 26) (zr := 601) hR ⟨⟨SH_3, by decide⟩, ⟨SH_26, by decide⟩, by decide, ⟨by omega, by omega, by omega, by omega⟩, by omega, hrow6⟩ (by decide) (by decide) ⟨Or.inr t6, by rw [show (bqOf m6 3).2.1 = m6 3 8 from rfl]; omega, Or.inl t9⟩ (by omega) (fun _ => by omega)) SH_3 rfl (by decide) rfl rfl (Nat.le_of_ble_eq_true rfl) (by decide) (by decide) (Nat.le_refl _) (Nat.le_refl _) dX6_calmestWait_110 (fun m4 hm4 => ?_)
        obtain ⟨-, h4a, -, h4b, h4c, -⟩ := hm4
        have hbq : bqOf m6 3 = (1, 0, 1, mi 1 13) := by unfold bqOf; rw [t6, t8, t9, t11]
        rw [e62, t7, t10, e63, hbq, h613] at h4b
        have h4f : frS mi m4 := fun x j a c d9 => by rw [h4a x j d9 (Or.inl a), k6 x j d9, g3 x j a]; exact hm1.2.2 x j c a
        have h25 : ∀ j : Int, m4 25 j = m1 25 j := fun j => by rw [h4a 25 j (by decide) (Or.inl (by decide)), k6 25 j (by decide), g3 25 j (by decide)]
        have h26 : ∀ j : Int, 0 ≤ j → j < 601 → m4 26 j = stF mi b g j.toNat := fun j a c => by rw [h4b j a (by omega), hm6.1 j a c, Int.zero_add]; rfl
        have hr25 : ∀ j : Int, 0 ≤ j → j < 720 → -100000 ≤ m4 25 j ∧ m4 25 j ≤ 100000 := fun j a c => by rw [h25]; have := hrow j a c; omega
        have hr26 : ∀ j : Int, 0 ≤ j → j < 601 → -100000 ≤ m4 26 j ∧ m4 26 j ≤ 100000 := fun j a c => by rw [h26 j a c]; have := stF_rng hc (b := b) (g := g) (by omega) (by omega) j.toNat; omega
        have hG : ∀ w : Int, 0 ≤ w → w ≤ 2 * mi (28 + b.toNat) 3 - 1 → mxA (fun k => m4 25 (w + k) + m4 26 k) 601 = gsW mi b g (w.toNat) := fun w w0 w1 => by
          refine mxA_congr (fun k hk => ?_)
          have e9 := hm1.1 (w + (k : Int)) (by omega) (by omega)
          rw [h25, e9, h26 (k : Int) (by omega) (by omega), Int.toNat_natCast, show (w + (k : Int)).toNat = w.toNat + k by omega]
        refine aw_iconst dX6_calmestWait_113 ?_
        refine aw_istore (i := 4) (lv' := [(0, .ref 1), (1, iI b), (2, iI g), (3, iI ((2 * (mi (28 + (b).toNat) 3)) - 1)), (4, iI 0)]) [1, 2, 3, 4, 0] dX6_calmestWait_114 (by decide) rfl ?_
        refine aw_ldcw (x := 1000000) coX6_303 rfl dX6_calmestWait_116 ?_
        refine aw_istore (i := 5) (lv' := [(0, .ref 1), (1, iI b), (2, iI g), (3, iI ((2 * (mi (28 + (b).toNat) 3)) - 1)), (4, iI 0), (5, iI 1000000)]) [1, 2, 3, 4, 5, 0] dX6_calmestWait_119 (by decide) rfl ?_
        refine aw_iconst dX6_calmestWait_121 ?_
        refine aw_istore (i := 6) (lv' := [(0, .ref 1), (1, iI b), (2, iI g), (3, iI ((2 * (mi (28 + (b).toNat) 3)) - 1)), (4, iI 0), (5, iI 1000000), (6, iI 0)]) [1, 2, 3, 4, 5, 6, 0] dX6_calmestWait_122 (by decide) rfl ?_
        exact l_calm hR h4f hc ⟨by omega, by omega⟩ ⟨by omega, by omega⟩ (by omega) (by omega) hr25 hr26 hG 121 0 1000000 0 (Or.inl ⟨rfl, rfl, rfl⟩) (fun j hj => by omega) (fun j hj => by omega) (by omega) (by omega) (by omega)
      · refine aw_bipush (x := -6) dX6_calmestWait_37 rfl ?_
        exact aw_iret ⟨_, rfl, rfl, rfl, (fun _ _ _ _ _ => rfl), Or.inr ⟨⟨by omega, by omega⟩, Or.inr ⟨⟨by omega, by omega⟩, Or.inl ⟨by omega, rfl⟩⟩⟩⟩ (Nat.le_refl _) (Nat.le_refl _) dX6_calmestWait_39
    · refine aw_bipush (x := -3) dX6_calmestWait_22 rfl ?_
      exact aw_iret ⟨_, rfl, rfl, rfl, (fun _ _ _ _ _ => rfl), Or.inr ⟨⟨by omega, by omega⟩, Or.inl ⟨by omega, rfl⟩⟩⟩ (Nat.le_refl _) (Nat.le_refl _) dX6_calmestWait_24
  · refine aw_bipush (x := -2) dX6_calmestWait_8 rfl ?_
    exact aw_iret ⟨_, rfl, rfl, rfl, (fun _ _ _ _ _ => rfl), Or.inl ⟨by omega, rfl⟩⟩ (Nat.le_refl _) (Nat.le_refl _) dX6_calmestWait_10
