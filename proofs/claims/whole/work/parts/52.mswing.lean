-- part 52: the model: force, greatestShake, startSwing, calmestWait (printed by wip/whole/gen/p52.py)
def gsM (mi : aM) (b g : Int) (w : Nat) : Int := mxA (fun k => shM mi (w + k) (mi 58 6).toNat + stM mi b g k) 601
theorem stM_rng {mi : aM} (h : mB mi) {b g : Int} (hb : 0 ≤ b ∧ b < mi 58 6) (hg : 1 ≤ g ∧ g ≤ 1000) (k : Nat) : -1000 ≤ stM mi b g k ∧ stM mi b g k ≤ 1000 := by
  obtain ⟨k59, k60, k61, k62, k63, k86, k87, k88⟩ := h.2.2 b hb.1 hb.2
  exact fK_rng k61 k62 ⟨Or.inr rfl, ⟨by show (0 : Int) ≤ 0; omega, by show (0 : Int) ≤ 1000; omega⟩, Or.inl rfl⟩ (by omega) (fun _ => ⟨Int.le_refl _, by show mi 58 9 ≤ mi 58 9 + mi 62 b; omega⟩) k
theorem shM_r2 {mi : aM} (hB : mB mi) (hW : mW mi) (k : Nat) : -12000 ≤ shM mi k (mi 58 6).toNat ∧ shM mi k (mi 58 6).toNat ≤ 12000 := by
  have hn := hB.1
  have := shM_rng hB hW (fun i a c => (hW i a c).2.1) k (mi 58 6).toNat (by omega)
  omega
theorem gsM_rng {mi : aM} (h : mB mi) (hW : mW mi) {b g : Int} (hb : 0 ≤ b ∧ b < mi 58 6) (hg : 1 ≤ g ∧ g ≤ 1000) (w : Nat) : 0 ≤ gsM mi b g w ∧ gsM mi b g w ≤ 13000 := by
  refine ⟨mxA_nn _ _, mxA_le (by decide) (fun k hk => ?_)⟩
  have h1 := shM_r2 h hW (w + k)
  have h2 := stM_rng h hb hg k
  omega
/-- the model's bell that begins to swing -/
def stA (mi : aM) (b g : Int) : aM := aup (aup (aup (aup (aup (aup mi 86 b 1) 88 b 1) 89 b 0) 90 b 1) 91 b g) 92 b (mi 58 9 + mi 62 b)
theorem t_force {mr : aR} (hR : Rok mr) {mi : aM} {b : Int} (h_b : -2147483648 ≤ b ∧ b ≤ 2147483647) (hB : mB mi) (hW : mW mi) : AWm RX7 cX7_force 2 3 (Pi mr (fun r m => m = mi ∧ r = if 0 ≤ b ∧ b < mi 58 6 then (if mi 86 b = 0 then 0 else frc (mi 90 b) (mi 61 b) (mi 89 b) (mi 62 b) (mi 58 9 - (mi 92 b - mi 62 b))) + 100000 else -2)) 5 [(0, .ref 58), (1, iI b)] [] mi mr := by
  have hn := hB.1
  have hnw := hB.2.1
  have hS : ∀ i : Int, 0 ≤ i → i < mi 58 6 → mi 90 i = 1 ∨ mi 90 i = -1 ∨ mi 86 i = 0 := fun i a c => (hW i a c).2.1
  refine aw_aload_n (i := 0) (q := 0) dX7_force_5 rfl rfl ?_
  refine aw_iload_n (i := 1) (q := 1) dX7_force_6 rfl rfl ?_
  refine aw_cVp (As := [iI b]) (st := []) clX7_149 (s_X7_isBell hR (by omega) (by first | omega | (rw [aup_k (a := 58) (x := 58) (j := 6) (by decide)]; omega))) SH_58 rfl (by decide) rfl rfl (Nat.le_of_ble_eq_true rfl) (by decide) (by decide) (Nat.le_refl _) (Nat.le_refl _) dX7_force_7 (fun v7 hv7 => ?_)
  try rw [aup_k (a := 58) (x := 58) (j := 6) (by decide)] at hv7
  refine aw_if_ne (tgt := 16) dX7_force_10 (by decide) (by first | assumption | omega) (fun c10 => ?_) (fun c10 => ?_)
  · obtain ⟨k59, k60, k61, k62, k63, k86, k87, k88⟩ := hB.2.2 b (by omega) (by omega)
    obtain ⟨q1, q2, q3, q4, q5⟩ := hW b (by omega) (by omega)
    refine aw_ldc (x := 100000) coX7_196 rfl dX7_force_16 ?_
    refine aw_aload_n (i := 0) (q := 0) dX7_force_18 rfl rfl ?_
    refine aw_getR (r := 86) flX7_99 SH_58 (by decide) rfl (rk_58_44 hR) dX7_force_19 ?_
    refine aw_iload_n (i := 1) (q := 1) dX7_force_22 rfl rfl ?_
    refine aw_zaldv (x := mi 86 b) SH_86 (by decide) ⟨by omega, by omega⟩ rfl dX7_force_23 (fun r23 => ?_)
    refine aw_if_eq (tgt := 65) dX7_force_24 (by decide) (by first | assumption | omega) (fun c24 => ?_) (fun c24 => ?_)
    · refine aw_iconst dX7_force_65 ?_
      refine aw_iadd dX7_force_66 ?_
      exact aw_iret ⟨_, rfl, rfl, rfl, rfl, (by rw [if_pos ⟨by omega, by omega⟩, if_pos (by omega)]; rfl)⟩ (Nat.le_refl _) (Nat.le_refl _) dX7_force_67
    · refine aw_aload_n (i := 0) (q := 0) dX7_force_27 rfl rfl ?_
      refine aw_iload_n (i := 1) (q := 1) dX7_force_28 rfl rfl ?_
      refine aw_aload_n (i := 0) (q := 0) dX7_force_29 rfl rfl ?_
      refine aw_getR (r := 90) flX7_111 SH_58 (by decide) rfl (rk_58_48 hR) dX7_force_30 ?_
      refine aw_iload_n (i := 1) (q := 1) dX7_force_33 rfl rfl ?_
      refine aw_ialdv (x := mi 90 b) SH_90 (by decide) ⟨by omega, by omega⟩ rfl dX7_force_34 (fun r34 => ?_)
      refine aw_aload_n (i := 0) (q := 0) dX7_force_35 rfl rfl ?_
      refine aw_getR (r := 89) flX7_108 SH_58 (by decide) rfl (rk_58_47 hR) dX7_force_36 ?_
      refine aw_iload_n (i := 1) (q := 1) dX7_force_39 rfl rfl ?_
      refine aw_ialdv (x := mi 89 b) SH_89 (by decide) ⟨by omega, by omega⟩ rfl dX7_force_40 (fun r40 => ?_)
      refine aw_aload_n (i := 0) (q := 0) dX7_force_41 rfl rfl ?_
      refine aw_getIk (x := mi 58 9) 9 flX7_158 SH_58 (by decide) rfl rfl rfl dX7_force_42 (fun r42 => ?_)
      refine aw_aload_n (i := 0) (q := 0) dX7_force_45 rfl rfl ?_
      refine aw_getR (r := 92) flX7_117 SH_58 (by decide) rfl (rk_58_50 hR) dX7_force_46 ?_
      refine aw_iload_n (i := 1) (q := 1) dX7_force_49 rfl rfl ?_
      refine aw_ialdv (x := mi 92 b) SH_92 (by decide) ⟨by omega, by omega⟩ rfl dX7_force_50 (fun r50 => ?_)
      refine aw_isub dX7_force_51 ?_
      refine aw_aload_n (i := 0) (q := 0) dX7_force_52 rfl rfl ?_
      refine aw_getR (r := 62) flX7_23 SH_58 (by decide) rfl (rk_58_4 hR) dX7_force_53 ?_
      refine aw_iload_n (i := 1) (q := 1) dX7_force_56 rfl rfl ?_
      refine aw_ialdv (x := mi 62 b) SH_62 (by decide) ⟨by omega, by omega⟩ rfl dX7_force_57 (fun r57 => ?_)
      refine aw_iadd dX7_force_58 ?_
      refine aw_cVp (As := [iI b, iI (mi 90 b), iI (mi 89 b), iI (((mi 58 9) - (mi 92 b)) + (mi 62 b))]) (st := [iI 100000]) clX7_313 (s_X7_forceBy hR (by omega) k61 k62 (by omega) q1 (by omega)) SH_58 rfl (by decide) rfl rfl (Nat.le_of_ble_eq_true rfl) (by decide) (by decide) (Nat.le_refl _) (Nat.le_refl _) dX7_force_59 (fun v59 hv59 => ?_)
      obtain ⟨hv59, hv59r⟩ := hv59
      refine aw_goto (tgt := 66) dX7_force_62 (by decide) ?_
      refine aw_iadd dX7_force_66 ?_
      exact aw_iret ⟨_, rfl, rfl, rfl, rfl, (by rw [if_pos ⟨by omega, by omega⟩, if_neg (by omega), hv59, show mi 58 9 - mi 92 b + mi 62 b = mi 58 9 - (mi 92 b - mi 62 b) by omega]; omega)⟩ (Nat.le_refl _) (Nat.le_refl _) dX7_force_67
  · refine aw_bipush (x := -2) dX7_force_13 rfl ?_
    exact aw_iret ⟨_, rfl, rfl, rfl, rfl, (by rw [if_neg (by omega)])⟩ (Nat.le_refl _) (Nat.le_refl _) dX7_force_15
theorem s_X7_force {mr : aR} (hR : Rok mr) {mi : aM} {b : Int} (h_b : -2147483648 ≤ b ∧ b ≤ 2147483647) (hB : mB (aup mi 58 0 0)) (hW : mW (aup mi 58 0 0)) : SPg yX7_force cX7_force 2 (some .int) 3 [.ref 58, iI b] mi mr (Pi mr (fun r m => m = (aup mi 58 0 0) ∧ r = if 0 ≤ b ∧ b < (aup mi 58 0 0) 58 6 then (if (aup mi 58 0 0) 86 b = 0 then 0 else frc ((aup mi 58 0 0) 90 b) ((aup mi 58 0 0) 61 b) ((aup mi 58 0 0) 89 b) ((aup mi 58 0 0) 62 b) ((aup mi 58 0 0) 58 9 - ((aup mi 58 0 0) 92 b - (aup mi 58 0 0) 62 b))) + 100000 else -2)) := by
  refine SPg.int rfl (by decide +kernel) (Nat.le_of_ble_eq_true rfl) ?_
  show AWm RX7 cX7_force 2 3 _ 0 [(0, .ref 58), (1, iI b)] [] mi mr
  refine aw_aload_n (i := 0) (q := 0) dX7_force_0 rfl rfl ?_
  refine aw_iconst dX7_force_1 ?_
  refine aw_putIk 0 flX7_1 SH_58 (by decide) rfl rfl rfl (by decide) dX7_force_2 ?_
  exact t_force (mi := aup mi 58 0 0) hR h_b hB hW
theorem l_gsM {mr : aR} (hR : Rok mr) {mi m : aM} {k : Int} (hk : 0 ≤ k ∧ k ≤ 600) (hfr : fr93 mi m) (hrow : ∀ j : Int, 0 ≤ j → j ≤ k → m 93 j = shM mi j.toNat (mi 58 6).toNat) (hrg : ∀ j : Nat, -12000 ≤ shM mi j (mi 58 6).toNat ∧ shM mi j (mi 58 6).toNat ≤ 12000) : ∀ (n : Nat) (g z : Int) (i : Nat), g = mxA (fun j => shM mi j (mi 58 6).toNat) i → z = (i : Int) → (0 ≤ z ∧ z ≤ k + 1) → k + 1 - z < n → AWm RX7 cX7_greatestShake 4 3 (Pi mr (fun r m => fr93 mi m ∧ r = if 0 ≤ k ∧ k ≤ 600 then mxA (fun j => shM mi j (mi 58 6).toNat) (k + 1).toNat else -3)) 29 [(0, .ref 58), (1, iI k), (2, iI g), (3, iI z)] [] m mr := by
  intro n
  induction n with
  | zero => intro g z i hg hz h2 h3; omega
  | succ n ih =>
    intro g z i hg hz h2 h3
    have hg0 := mxA_nn (fun j => shM mi j (mi 58 6).toNat) i
    have hg1 := mxA_le (f := (fun j => shM mi j (mi 58 6).toNat)) (B := 12000) (by decide) (n := i) (fun j _ => hrg j)
    refine aw_iload_n (i := 3) (q := 3) dX7_greatestShake_29 rfl rfl ?_
    refine aw_iload_n (i := 1) (q := 1) dX7_greatestShake_30 rfl rfl ?_
    refine aw_icmp_gt (tgt := 67) dX7_greatestShake_31 (by decide) (by first | assumption | omega) (by first | assumption | omega) (fun c31 => ?_) (fun c31 => ?_)
    · refine aw_iload_n (i := 2) (q := 2) dX7_greatestShake_67 rfl rfl ?_
      exact aw_iret ⟨_, rfl, rfl, rfl, hfr, by rw [if_pos hk, hg, show i = (k + 1).toNat by omega]⟩ (Nat.le_refl _) (Nat.le_refl _) dX7_greatestShake_68
    · have hr9 : m 93 z = shM mi i (mi 58 6).toNat := by rw [hrow z (by omega) (by omega), show z.toNat = i by omega]
      have hr8 := hrg i
      refine aw_aload_n (i := 0) (q := 0) dX7_greatestShake_34 rfl rfl ?_
      refine aw_getR (r := 93) flX7_120 SH_58 (by decide) rfl (rk_58_51 hR) dX7_greatestShake_35 ?_
      refine aw_iload_n (i := 3) (q := 3) dX7_greatestShake_38 rfl rfl ?_
      refine aw_ialdv (x := m 93 z) SH_93 (by decide) ⟨by omega, by omega⟩ rfl dX7_greatestShake_39 (fun r39 => ?_)
      refine aw_cSp (As := [iI (m 93 z)]) (st := []) clX7_316 (s_X7_sizeOf hR (by omega)) rfl rfl (Nat.le_of_ble_eq_true rfl) (by decide) (by decide) (Nat.le_refl _) (Nat.le_refl _) dX7_greatestShake_40 (fun v40 hv40 => ?_)
      have ha40 : (v40 = shM mi i (mi 58 6).toNat ∧ 0 ≤ shM mi i (mi 58 6).toNat) ∨ (v40 = -(shM mi i (mi 58 6).toNat) ∧ shM mi i (mi 58 6).toNat < 0) := by rw [hv40, hr9]; unfold absI; split <;> omega
      refine aw_iload_n (i := 2) (q := 2) dX7_greatestShake_43 rfl rfl ?_
      refine aw_icmp_le (tgt := 59) dX7_greatestShake_44 (by decide) (by first | assumption | omega) (by first | assumption | omega) (fun c44 => ?_) (fun c44 => ?_)
      · refine aw_iload_n (i := 2) (q := 2) dX7_greatestShake_59 rfl rfl ?_
        refine aw_istore_n (i := 2) (lv' := [(0, .ref 58), (1, iI k), (2, iI g), (3, iI z)]) [1, 2, 0, 3] dX7_greatestShake_60 rfl (by decide) rfl ?_
        refine aw_iinc (i := 3) (q := 3) (x := z) (lv' := [(0, .ref 58), (1, iI k), (2, iI g), (3, iI (z + 1))]) [1, 2, 3, 0] dX7_greatestShake_61 rfl (by decide) rfl ?_
        refine aw_goto (tgt := 29) dX7_greatestShake_64 (by decide) ?_
        exact ih _ (z + 1) (i + 1) (mxA_step (f := (fun j => shM mi j (mi 58 6).toNat)) hg (a := v40) ha40 (by omega)) (by omega) (by omega) (by omega)
      · refine aw_aload_n (i := 0) (q := 0) dX7_greatestShake_47 rfl rfl ?_
        refine aw_getR (r := 93) flX7_120 SH_58 (by decide) rfl (rk_58_51 hR) dX7_greatestShake_48 ?_
        refine aw_iload_n (i := 3) (q := 3) dX7_greatestShake_51 rfl rfl ?_
        refine aw_ialdv (x := m 93 z) SH_93 (by decide) ⟨by omega, by omega⟩ rfl dX7_greatestShake_52 (fun r52 => ?_)
        refine aw_cSp (As := [iI (m 93 z)]) (st := []) clX7_316 (s_X7_sizeOf hR (by omega)) rfl rfl (Nat.le_of_ble_eq_true rfl) (by decide) (by decide) (Nat.le_refl _) (Nat.le_refl _) dX7_greatestShake_53 (fun v53 hv53 => ?_)
        have ha53 : (v53 = shM mi i (mi 58 6).toNat ∧ 0 ≤ shM mi i (mi 58 6).toNat) ∨ (v53 = -(shM mi i (mi 58 6).toNat) ∧ shM mi i (mi 58 6).toNat < 0) := by rw [hv53, hr9]; unfold absI; split <;> omega
        refine aw_goto (tgt := 60) dX7_greatestShake_56 (by decide) ?_
        refine aw_istore_n (i := 2) (lv' := [(0, .ref 58), (1, iI k), (2, iI v53), (3, iI z)]) [1, 2, 0, 3] dX7_greatestShake_60 rfl (by decide) rfl ?_
        refine aw_iinc (i := 3) (q := 3) (x := z) (lv' := [(0, .ref 58), (1, iI k), (2, iI v53), (3, iI (z + 1))]) [1, 2, 3, 0] dX7_greatestShake_61 rfl (by decide) rfl ?_
        refine aw_goto (tgt := 29) dX7_greatestShake_64 (by decide) ?_
        exact ih _ (z + 1) (i + 1) (mxA_step (f := (fun j => shM mi j (mi 58 6).toNat)) hg (a := v40) ha40 (by omega)) (by omega) (by omega) (by omega)
theorem t_greatestShake {mr : aR} (hR : Rok mr) {mi : aM} {k : Int} (h_k : -2147483648 ≤ k ∧ k ≤ 2147483647) (hB : mB mi) (hW : mW mi) : AWm RX7 cX7_greatestShake 4 3 (Pi mr (fun r m => fr93 mi m ∧ r = if 0 ≤ k ∧ k ≤ 600 then mxA (fun j => shM mi j (mi 58 6).toNat) (k + 1).toNat else -3)) 5 [(0, .ref 58), (1, iI k)] [] mi mr := by
  have hn := hB.1
  have hnw := hB.2.1
  have hS : ∀ i : Int, 0 ≤ i → i < mi 58 6 → mi 90 i = 1 ∨ mi 90 i = -1 ∨ mi 86 i = 0 := fun i a c => (hW i a c).2.1
  refine aw_iload_n (i := 1) (q := 1) dX7_greatestShake_5 rfl rfl ?_
  refine aw_i2l dX7_greatestShake_6 (by first | assumption | omega) ?_
  refine aw_lconst (x := 0) dX7_greatestShake_7 rfl ?_
  refine aw_ldc2 (x := 600) coX7_333 rfl dX7_greatestShake_8 ?_
  refine aw_cSp (As := [lL k, lL 0, lL 600]) (st := []) clX7_135 (s_X7_isIn hR (by omega) (by omega) (by omega)) rfl rfl (Nat.le_of_ble_eq_true rfl) (by decide) (by decide) (Nat.le_refl _) (Nat.le_refl _) dX7_greatestShake_11 (fun v11 hv11 => ?_)
  refine aw_if_ne (tgt := 20) dX7_greatestShake_14 (by decide) (by first | assumption | omega) (fun c14 => ?_) (fun c14 => ?_)
  · refine aw_aload_n (i := 0) (q := 0) dX7_greatestShake_20 rfl rfl ?_
    refine aw_iload_n (i := 1) (q := 1) dX7_greatestShake_21 rfl rfl ?_
    refine aw_cVv (As := [iI k]) (st := []) clX7_321 (s_X7_laysShake hR hB hW hS (by omega)) SH_58 rfl (by decide) rfl rfl (Nat.le_of_ble_eq_true rfl) (by decide) (by decide) (Nat.le_refl _) (Nat.le_refl _) dX7_greatestShake_22 (fun m1 hm1 => ?_)
    obtain ⟨hm1a, hm1b⟩ := hm1
    refine aw_iconst dX7_greatestShake_25 ?_
    refine aw_istore_n (i := 2) (lv' := [(0, .ref 58), (1, iI k), (2, iI 0)]) [1, 2, 0] dX7_greatestShake_26 rfl (by decide) rfl ?_
    refine aw_iconst dX7_greatestShake_27 ?_
    refine aw_istore_n (i := 3) (lv' := [(0, .ref 58), (1, iI k), (2, iI 0), (3, iI 0)]) [1, 2, 3, 0] dX7_greatestShake_28 rfl (by decide) rfl ?_
    exact l_gsM hR ⟨by omega, by omega⟩ (fun x j a _ => hm1a x j a) hm1b (fun j => shM_r2 hB hW j) ((k + 1).toNat + 1) 0 0 0 rfl rfl (by omega) (by omega)
  · refine aw_bipush (x := -3) dX7_greatestShake_17 rfl ?_
    exact aw_iret ⟨_, rfl, rfl, rfl, (fun _ _ _ _ => rfl), by rw [if_neg (by omega)]⟩ (Nat.le_refl _) (Nat.le_refl _) dX7_greatestShake_19
theorem s_X7_greatestShake {mr : aR} (hR : Rok mr) {mi : aM} {k : Int} (h_k : -2147483648 ≤ k ∧ k ≤ 2147483647) (hB : mB (aup mi 58 0 0)) (hW : mW (aup mi 58 0 0)) : SPg yX7_greatestShake cX7_greatestShake 4 (some .int) 3 [.ref 58, iI k] mi mr (Pi mr (fun r m => fr93 (aup mi 58 0 0) m ∧ r = if 0 ≤ k ∧ k ≤ 600 then mxA (fun j => shM (aup mi 58 0 0) j ((aup mi 58 0 0) 58 6).toNat) (k + 1).toNat else -3)) := by
  refine SPg.int rfl (by decide +kernel) (Nat.le_of_ble_eq_true rfl) ?_
  show AWm RX7 cX7_greatestShake 4 3 _ 0 [(0, .ref 58), (1, iI k)] [] mi mr
  refine aw_aload_n (i := 0) (q := 0) dX7_greatestShake_0 rfl rfl ?_
  refine aw_iconst dX7_greatestShake_1 ?_
  refine aw_putIk 0 flX7_1 SH_58 (by decide) rfl rfl rfl (by decide) dX7_greatestShake_2 ?_
  exact t_greatestShake (mi := aup mi 58 0 0) hR h_k hB hW
theorem t_startSwing {mr : aR} (hR : Rok mr) {mi : aM} {b g : Int} (h_b : -2147483648 ≤ b ∧ b ≤ 2147483647) (h_g : -2147483648 ≤ g ∧ g ≤ 2147483647) (hB : mB mi) (hW : mW mi) (ho : mOk mi) (hsl : 0 ≤ mi 58 8 ∧ mi 58 8 ≤ 100000) (ht0 : ∀ i : Int, 0 ≤ i → i < mi 58 18 → 0 ≤ mi 68 i) : AWm RX7 cX7_startSwing 3 3 (Pi mr (fun r m => (¬ (0 ≤ b ∧ b < mi 58 6) ∧ r = -2 ∧ fr93 mi m) ∨ ((0 ≤ b ∧ b < mi 58 6) ∧ ((¬ (1 ≤ g ∧ g ≤ 1000) ∧ r = -3 ∧ fr93 mi m) ∨ ((1 ≤ g ∧ g ≤ 1000) ∧ ((mi 86 b ≠ 0 ∧ r = -6 ∧ fr93 mi m) ∨ (mi 86 b = 0 ∧ ((¬ (∀ i : Int, 0 ≤ i → i < mi 58 18 → mi 67 i ≠ b) ∧ r = -10 ∧ fr93 mi m) ∨ ((∀ i : Int, 0 ≤ i → i < mi 58 18 → mi 67 i ≠ b) ∧ ((mi 58 8 < gsM mi b g 0 ∧ r = -11 ∧ fr93 mi m) ∨ (gsM mi b g 0 ≤ mi 58 8 ∧ r = mi 58 9 + mi 62 b ∧ fr93 (stA mi b g) m))))))))))) 5 [(0, .ref 58), (1, iI b), (2, iI g)] [] mi mr := by
  have hn := hB.1
  have hnw := hB.2.1
  have hS : ∀ i : Int, 0 ≤ i → i < mi 58 6 → mi 90 i = 1 ∨ mi 90 i = -1 ∨ mi 86 i = 0 := fun i a c => (hW i a c).2.1
  refine aw_aload_n (i := 0) (q := 0) dX7_startSwing_5 rfl rfl ?_
  refine aw_iload_n (i := 1) (q := 1) dX7_startSwing_6 rfl rfl ?_
  refine aw_cVp (As := [iI b]) (st := []) clX7_149 (s_X7_isBell hR (by omega) (by first | omega | (rw [aup_k (a := 58) (x := 58) (j := 6) (by decide)]; omega))) SH_58 rfl (by decide) rfl rfl (Nat.le_of_ble_eq_true rfl) (by decide) (by decide) (Nat.le_refl _) (Nat.le_refl _) dX7_startSwing_7 (fun v7 hv7 => ?_)
  try rw [aup_k (a := 58) (x := 58) (j := 6) (by decide)] at hv7
  refine aw_if_ne (tgt := 16) dX7_startSwing_10 (by decide) (by first | assumption | omega) (fun c10 => ?_) (fun c10 => ?_)
  · refine aw_iload_n (i := 2) (q := 2) dX7_startSwing_16 rfl rfl ?_
    refine aw_i2l dX7_startSwing_17 (by first | assumption | omega) ?_
    refine aw_lconst (x := 1) dX7_startSwing_18 rfl ?_
    refine aw_ldc2 (x := 1000) coX7_319 rfl dX7_startSwing_19 ?_
    refine aw_cSp (As := [lL g, lL 1, lL 1000]) (st := []) clX7_135 (s_X7_isIn hR (by omega) (by omega) (by omega)) rfl rfl (Nat.le_of_ble_eq_true rfl) (by decide) (by decide) (Nat.le_refl _) (Nat.le_refl _) dX7_startSwing_22 (fun v22 hv22 => ?_)
    refine aw_if_ne (tgt := 31) dX7_startSwing_25 (by decide) (by first | assumption | omega) (fun c25 => ?_) (fun c25 => ?_)
    · obtain ⟨k59, k60, k61, k62, k63, k86, k87, k88⟩ := hB.2.2 b (by omega) (by omega)
      refine aw_aload_n (i := 0) (q := 0) dX7_startSwing_31 rfl rfl ?_
      refine aw_getR (r := 86) flX7_99 SH_58 (by decide) rfl (rk_58_44 hR) dX7_startSwing_32 ?_
      refine aw_iload_n (i := 1) (q := 1) dX7_startSwing_35 rfl rfl ?_
      refine aw_zaldv (x := mi 86 b) SH_86 (by decide) ⟨by omega, by omega⟩ rfl dX7_startSwing_36 (fun r36 => ?_)
      refine aw_if_eq (tgt := 43) dX7_startSwing_37 (by decide) (by first | assumption | omega) (fun c37 => ?_) (fun c37 => ?_)
      · refine aw_aload_n (i := 0) (q := 0) dX7_startSwing_43 rfl rfl ?_
        refine aw_iload_n (i := 1) (q := 1) dX7_startSwing_44 rfl rfl ?_
        refine aw_cVp (As := [iI b]) (st := []) clX7_190 (s_X7_nextOf hR ho ht0 (by omega)) SH_58 rfl (by decide) rfl rfl (Nat.le_of_ble_eq_true rfl) (by decide) (by decide) (Nat.le_refl _) (Nat.le_refl _) dX7_startSwing_45 (fun v45 hv45 => ?_)
        have h45a : v45 = -1 → ∀ i : Int, 0 ≤ i → i < mi 58 18 → mi 67 i ≠ b := fun q0 => by
          rcases hv45 with ⟨k, k0, k1, k2, k3, -⟩ | ⟨-, q9⟩
          · have h8 := ht0 k k0 k1; omega
          · exact q9
        have h45b : v45 ≠ -1 → ¬ (∀ i : Int, 0 ≤ i → i < mi 58 18 → mi 67 i ≠ b) := fun q0 q => by
          rcases hv45 with ⟨k, k0, k1, k2, k3, -⟩ | ⟨q9, -⟩
          · exact q k k0 k1 k2
          · exact q0 q9
        have h45r : -1 ≤ v45 ∧ v45 ≤ 1000000 := by
          rcases hv45 with ⟨k, k0, k1, k2, k3, -⟩ | ⟨q9, -⟩
          · have h9 := (ho.2 k k0 k1).2; have h8 := ht0 k k0 k1; omega
          · omega
        clear hv45
        refine aw_iconst dX7_startSwing_48 ?_
        refine aw_icmp_eq (tgt := 55) dX7_startSwing_49 (by decide) (by first | assumption | omega) (by decide) (fun c49 => ?_) (fun c49 => ?_)
        · have hns := h45a (by omega)
          refine aw_aload_n (i := 0) (q := 0) dX7_startSwing_55 rfl rfl ?_
          refine aw_sipush (x := 600) dX7_startSwing_56 rfl ?_
          refine aw_cVv (As := [iI 600]) (st := []) clX7_321 (s_X7_laysShake hR hB hW hS (by omega)) SH_58 rfl (by decide) rfl rfl (Nat.le_of_ble_eq_true rfl) (by decide) (by decide) (Nat.le_refl _) (Nat.le_refl _) dX7_startSwing_59 (fun m1 hm1 => ?_)
          obtain ⟨hm1a, hm1b⟩ := hm1
          refine aw_aload_n (i := 0) (q := 0) dX7_startSwing_62 rfl rfl ?_
          refine aw_iload_n (i := 1) (q := 1) dX7_startSwing_63 rfl rfl ?_
          refine aw_iload_n (i := 2) (q := 2) dX7_startSwing_64 rfl rfl ?_
          refine aw_cVv (As := [iI b, iI g]) (st := []) clX7_324 (s_X7_laysStarted (mi := m1) hR (by omega) (by rw [hm1a 61 b (by decide)]; exact k61) (by rw [hm1a 62 b (by decide)]; exact k62) (by omega) (by rw [hm1a 58 9 (by decide)]; exact hnw)) SH_58 rfl (by decide) rfl rfl (Nat.le_of_ble_eq_true rfl) (by decide) (by decide) (Nat.le_refl _) (Nat.le_refl _) dX7_startSwing_65 (fun m2 hm2 => ?_)
          obtain ⟨hm2a, hm2b⟩ := hm2
          have g2 : fr93 mi m2 := fun x j a c => by rw [hm2a x j c]; exact hm1a x j a
          have h93 : ∀ j : Int, m2 93 j = m1 93 j := fun j => hm2a 93 j (by decide)
          have hst : ∀ j : Nat, stM m1 b g j = stM mi b g j := fun j => by unfold stM; rw [hm1a 61 b (by decide), hm1a 62 b (by decide), hm1a 58 9 (by decide)]
          have h94 : ∀ j : Int, 0 ≤ j → j ≤ 600 → m2 94 j = stM mi b g j.toNat := fun j a c => by rw [hm2b j a c, hst]
          have e9 : m2 58 9 = mi 58 9 := g2 _ _ (by decide) (by decide)
          have e8 : m2 58 8 = mi 58 8 := g2 _ _ (by decide) (by decide)
          have e62 : m2 62 b = mi 62 b := g2 _ _ (by decide) (by decide)
          refine aw_aload_n (i := 0) (q := 0) dX7_startSwing_68 rfl rfl ?_
          refine aw_iconst dX7_startSwing_69 ?_
          refine aw_cVp (As := [iI 0]) (st := []) clX7_327 (s_X7_worstBy (mi := m2) hR (by omega) (fun j a c => by rw [h93, hm1b j (by omega) (by omega)]; have := shM_r2 hB hW j.toNat; omega) (fun j a c => by rw [h94 j a (by omega)]; have := stM_rng hB (b := b) (g := g) (by omega) (by omega) j.toNat; omega)) SH_58 rfl (by decide) rfl rfl (Nat.le_of_ble_eq_true rfl) (by decide) (by decide) (Nat.le_refl _) (Nat.le_refl _) dX7_startSwing_70 (fun v70 hv70 => ?_)
          have hgs : v70 = gsM mi b g ((0 : Int)).toNat := by
            rw [hv70]
            refine mxA_congr (fun k hk => ?_)
            rw [h94 (k : Int) (by omega) (by omega), h93, hm1b _ (by omega) (by omega), Int.toNat_natCast, show (((0 : Int)) + (k : Int)).toNat = ((0 : Int)).toNat + k by omega]
          have hgr := gsM_rng hB hW (b := b) (g := g) (by omega) (by omega) ((0 : Int)).toNat
          refine aw_aload_n (i := 0) (q := 0) dX7_startSwing_73 rfl rfl ?_
          refine aw_getIk (x := m2 58 8) 8 flX7_129 SH_58 (by decide) rfl rfl rfl dX7_startSwing_74 (fun r74 => ?_)
          refine aw_icmp_le (tgt := 83) dX7_startSwing_77 (by decide) (by first | assumption | omega) (by first | assumption | omega) (fun c77 => ?_) (fun c77 => ?_)
          · refine aw_aload_n (i := 0) (q := 0) dX7_startSwing_83 rfl rfl ?_
            refine aw_getR (r := 86) flX7_99 SH_58 (by decide) rfl (rk_58_44 hR) dX7_startSwing_84 ?_
            refine aw_iload_n (i := 1) (q := 1) dX7_startSwing_87 rfl rfl ?_
            refine aw_iconst dX7_startSwing_88 ?_
            refine aw_zast SH_86 (by decide) ⟨by omega, by omega⟩ (by decide) dX7_startSwing_89 ?_
            refine aw_aload_n (i := 0) (q := 0) dX7_startSwing_90 rfl rfl ?_
            refine aw_getR (r := 88) flX7_105 SH_58 (by decide) rfl (rk_58_46 hR) dX7_startSwing_91 ?_
            refine aw_iload_n (i := 1) (q := 1) dX7_startSwing_94 rfl rfl ?_
            refine aw_iconst dX7_startSwing_95 ?_
            refine aw_zast SH_88 (by decide) ⟨by omega, by omega⟩ (by decide) dX7_startSwing_96 ?_
            refine aw_aload_n (i := 0) (q := 0) dX7_startSwing_97 rfl rfl ?_
            refine aw_getR (r := 89) flX7_108 SH_58 (by decide) rfl (rk_58_47 hR) dX7_startSwing_98 ?_
            refine aw_iload_n (i := 1) (q := 1) dX7_startSwing_101 rfl rfl ?_
            refine aw_iconst dX7_startSwing_102 ?_
            refine aw_iast SH_89 (by decide) ⟨by omega, by omega⟩ (by decide) dX7_startSwing_103 ?_
            refine aw_aload_n (i := 0) (q := 0) dX7_startSwing_104 rfl rfl ?_
            refine aw_getR (r := 90) flX7_111 SH_58 (by decide) rfl (rk_58_48 hR) dX7_startSwing_105 ?_
            refine aw_iload_n (i := 1) (q := 1) dX7_startSwing_108 rfl rfl ?_
            refine aw_iconst dX7_startSwing_109 ?_
            refine aw_iast SH_90 (by decide) ⟨by omega, by omega⟩ (by decide) dX7_startSwing_110 ?_
            refine aw_aload_n (i := 0) (q := 0) dX7_startSwing_111 rfl rfl ?_
            refine aw_getR (r := 91) flX7_114 SH_58 (by decide) rfl (rk_58_49 hR) dX7_startSwing_112 ?_
            refine aw_iload_n (i := 1) (q := 1) dX7_startSwing_115 rfl rfl ?_
            refine aw_iload_n (i := 2) (q := 2) dX7_startSwing_116 rfl rfl ?_
            refine aw_iast SH_91 (by decide) ⟨by omega, by omega⟩ (by first | assumption | omega) dX7_startSwing_117 ?_
            refine aw_aload_n (i := 0) (q := 0) dX7_startSwing_118 rfl rfl ?_
            refine aw_getR (r := 92) flX7_117 SH_58 (by decide) rfl (rk_58_50 hR) dX7_startSwing_119 ?_
            refine aw_iload_n (i := 1) (q := 1) dX7_startSwing_122 rfl rfl ?_
            refine aw_aload_n (i := 0) (q := 0) dX7_startSwing_123 rfl rfl ?_
            refine aw_getIk (x := m2 58 9) 9 flX7_158 SH_58 (by decide) rfl rfl (by (rw [aup_a (by decide), aup_a (by decide), aup_a (by decide), aup_a (by decide), aup_a (by decide)]) <;> rfl) dX7_startSwing_124 (fun r124 => ?_)
            refine aw_aload_n (i := 0) (q := 0) dX7_startSwing_127 rfl rfl ?_
            refine aw_getR (r := 62) flX7_23 SH_58 (by decide) rfl (rk_58_4 hR) dX7_startSwing_128 ?_
            refine aw_iload_n (i := 1) (q := 1) dX7_startSwing_131 rfl rfl ?_
            refine aw_ialdv (x := m2 62 b) SH_62 (by decide) ⟨by omega, by omega⟩ (by (rw [aup_a (by decide), aup_a (by decide), aup_a (by decide), aup_a (by decide), aup_a (by decide)]) <;> rfl) dX7_startSwing_132 (fun r132 => ?_)
            refine aw_iadd dX7_startSwing_133 ?_
            refine aw_iast SH_92 (by decide) ⟨by omega, by omega⟩ (by first | assumption | omega) dX7_startSwing_134 ?_
            refine aw_aload_n (i := 0) (q := 0) dX7_startSwing_135 rfl rfl ?_
            refine aw_getR (r := 92) flX7_117 SH_58 (by decide) rfl (rk_58_50 hR) dX7_startSwing_136 ?_
            refine aw_iload_n (i := 1) (q := 1) dX7_startSwing_139 rfl rfl ?_
            refine aw_ialdv (x := (m2 58 9) + (m2 62 b)) SH_92 (by decide) ⟨by omega, by omega⟩ (by (rw [aup_eq]) <;> rfl) dX7_startSwing_140 (fun r140 => ?_)
            exact aw_iret ⟨_, rfl, rfl, rfl, Or.inr ⟨by omega, Or.inr ⟨by omega, Or.inr ⟨by omega, Or.inr ⟨hns, Or.inr ⟨by rw [show (0 : Int).toNat = 0 from rfl] at hgs; omega, by omega, fun x j a c => by unfold stA; rw [e9, e62]; unfold aup; (repeat' split) <;> first | rfl | exact g2 x j a c⟩⟩⟩⟩⟩⟩ (Nat.le_refl _) (Nat.le_refl _) dX7_startSwing_141
          · refine aw_bipush (x := -11) dX7_startSwing_80 rfl ?_
            exact aw_iret ⟨_, rfl, rfl, rfl, Or.inr ⟨by omega, Or.inr ⟨by omega, Or.inr ⟨by omega, Or.inr ⟨hns, Or.inl ⟨by rw [show (0 : Int).toNat = 0 from rfl] at hgs; omega, rfl, g2⟩⟩⟩⟩⟩⟩ (Nat.le_refl _) (Nat.le_refl _) dX7_startSwing_82
        · have hns := h45b (by omega)
          refine aw_bipush (x := -10) dX7_startSwing_52 rfl ?_
          exact aw_iret ⟨_, rfl, rfl, rfl, Or.inr ⟨by omega, Or.inr ⟨by omega, Or.inr ⟨by omega, Or.inl ⟨hns, rfl, fun _ _ _ _ => rfl⟩⟩⟩⟩⟩ (Nat.le_refl _) (Nat.le_refl _) dX7_startSwing_54
      · refine aw_bipush (x := -6) dX7_startSwing_40 rfl ?_
        exact aw_iret ⟨_, rfl, rfl, rfl, Or.inr ⟨by omega, Or.inr ⟨by omega, Or.inl ⟨by omega, rfl, fun _ _ _ _ => rfl⟩⟩⟩⟩ (Nat.le_refl _) (Nat.le_refl _) dX7_startSwing_42
    · refine aw_bipush (x := -3) dX7_startSwing_28 rfl ?_
      exact aw_iret ⟨_, rfl, rfl, rfl, Or.inr ⟨by omega, Or.inl ⟨by omega, rfl, fun _ _ _ _ => rfl⟩⟩⟩ (Nat.le_refl _) (Nat.le_refl _) dX7_startSwing_30
  · refine aw_bipush (x := -2) dX7_startSwing_13 rfl ?_
    exact aw_iret ⟨_, rfl, rfl, rfl, Or.inl ⟨by omega, rfl, fun _ _ _ _ => rfl⟩⟩ (Nat.le_refl _) (Nat.le_refl _) dX7_startSwing_15
theorem s_X7_startSwing {mr : aR} (hR : Rok mr) {mi : aM} {b g : Int} (h_b : -2147483648 ≤ b ∧ b ≤ 2147483647) (h_g : -2147483648 ≤ g ∧ g ≤ 2147483647) (hB : mB (aup mi 58 0 0)) (hW : mW (aup mi 58 0 0)) (ho : mOk (aup mi 58 0 0)) (hsl : 0 ≤ (aup mi 58 0 0) 58 8 ∧ (aup mi 58 0 0) 58 8 ≤ 100000) (ht0 : ∀ i : Int, 0 ≤ i → i < (aup mi 58 0 0) 58 18 → 0 ≤ (aup mi 58 0 0) 68 i) : SPg yX7_startSwing cX7_startSwing 3 (some .int) 3 [.ref 58, iI b, iI g] mi mr (Pi mr (fun r m => (¬ (0 ≤ b ∧ b < (aup mi 58 0 0) 58 6) ∧ r = -2 ∧ fr93 (aup mi 58 0 0) m) ∨ ((0 ≤ b ∧ b < (aup mi 58 0 0) 58 6) ∧ ((¬ (1 ≤ g ∧ g ≤ 1000) ∧ r = -3 ∧ fr93 (aup mi 58 0 0) m) ∨ ((1 ≤ g ∧ g ≤ 1000) ∧ (((aup mi 58 0 0) 86 b ≠ 0 ∧ r = -6 ∧ fr93 (aup mi 58 0 0) m) ∨ ((aup mi 58 0 0) 86 b = 0 ∧ ((¬ (∀ i : Int, 0 ≤ i → i < (aup mi 58 0 0) 58 18 → (aup mi 58 0 0) 67 i ≠ b) ∧ r = -10 ∧ fr93 (aup mi 58 0 0) m) ∨ ((∀ i : Int, 0 ≤ i → i < (aup mi 58 0 0) 58 18 → (aup mi 58 0 0) 67 i ≠ b) ∧ (((aup mi 58 0 0) 58 8 < gsM (aup mi 58 0 0) b g 0 ∧ r = -11 ∧ fr93 (aup mi 58 0 0) m) ∨ (gsM (aup mi 58 0 0) b g 0 ≤ (aup mi 58 0 0) 58 8 ∧ r = (aup mi 58 0 0) 58 9 + (aup mi 58 0 0) 62 b ∧ fr93 (stA (aup mi 58 0 0) b g) m))))))))))) := by
  refine SPg.int rfl (by decide +kernel) (Nat.le_of_ble_eq_true rfl) ?_
  show AWm RX7 cX7_startSwing 3 3 _ 0 [(0, .ref 58), (1, iI b), (2, iI g)] [] mi mr
  refine aw_aload_n (i := 0) (q := 0) dX7_startSwing_0 rfl rfl ?_
  refine aw_iconst dX7_startSwing_1 ?_
  refine aw_putIk 0 flX7_1 SH_58 (by decide) rfl rfl rfl (by decide) dX7_startSwing_2 ?_
  exact t_startSwing (mi := aup mi 58 0 0) hR h_b h_g hB hW ho hsl ht0
theorem l_mcalm {mr : aR} (hR : Rok mr) {mi m2 : aM} {b g : Int} (hf : fr93 mi m2) (hB : mB mi) (hW : mW mi) (hb : 0 ≤ b ∧ b < mi 58 6) (hg : 1 ≤ g ∧ g ≤ 1000) (hsw : mi 86 b = 0) (hh : 10 ≤ mi 62 b ∧ mi 62 b ≤ 60) (hr93 : ∀ j : Int, 0 ≤ j → j ≤ 599 + 2 * mi 62 b → -100000 ≤ m2 93 j ∧ m2 93 j ≤ 100000) (hr94 : ∀ j : Int, 0 ≤ j → j < 601 → -100000 ≤ m2 94 j ∧ m2 94 j ≤ 100000) (hG : ∀ w : Int, 0 ≤ w → w < 2 * mi 62 b → mxA (fun k : Nat => m2 93 (w + k) + m2 94 k) 601 = gsM mi b g (w.toNat)) : ∀ (n : Nat) (c9 l9 z : Int), ((z = 0 ∧ l9 = 0 ∧ c9 = 0) ∨ (1 ≤ z ∧ (0 ≤ c9 ∧ c9 < z) ∧ l9 = gsM mi b g (c9.toNat))) → (∀ j : Nat, (j : Int) < c9 → l9 < gsM mi b g (j)) → (∀ j : Nat, (j : Int) < z → l9 ≤ gsM mi b g (j)) → (0 ≤ l9 ∧ l9 ≤ 1000000) → (0 ≤ z ∧ z ≤ 2 * mi 62 b) → 2 * mi 62 b - z < n → AWm RX7 cX7_calmestWait 7 3 (Pi mr (fun r m => fr93 mi m ∧ ((¬ (0 ≤ b ∧ b < mi 58 6) ∧ r = -2) ∨ ((0 ≤ b ∧ b < mi 58 6) ∧ ((¬ (1 ≤ g ∧ g ≤ 1000) ∧ r = -3) ∨ ((1 ≤ g ∧ g ≤ 1000) ∧ ((mi 86 b ≠ 0 ∧ r = -6) ∨ (mi 86 b = 0 ∧ (0 ≤ r ∧ r ≤ 2 * mi 62 b - 1) ∧ (∀ j : Nat, (j : Int) < r → gsM mi b g (r.toNat) < gsM mi b g (j)) ∧ ∀ j : Nat, (j : Int) ≤ 2 * mi 62 b - 1 → gsM mi b g (r.toNat) ≤ gsM mi b g (j))))))))) 75 [(0, .ref 58), (1, iI b), (2, iI g), (3, iI c9), (4, iI l9), (5, iI z)] [] m2 mr := by
  intro n
  induction n with
  | zero => intro c9 l9 z k1 k2 k3 k4 h2 h3; omega
  | succ n ih =>
    intro c9 l9 z k1 k2 k3 k4 h2 h3
    have hn := hB.1
    have e62 : m2 62 b = mi 62 b := hf _ _ (by decide) (by decide)
    refine aw_iload (i := 5) (q := 5) dX7_calmestWait_75 rfl ?_
    refine aw_iconst dX7_calmestWait_77 ?_
    refine aw_aload_n (i := 0) (q := 0) dX7_calmestWait_78 rfl rfl ?_
    refine aw_getR (r := 62) flX7_23 SH_58 (by decide) rfl (rk_58_4 hR) dX7_calmestWait_79 ?_
    refine aw_iload_n (i := 1) (q := 1) dX7_calmestWait_82 rfl rfl ?_
    refine aw_ialdv (x := m2 62 b) SH_62 (by decide) ⟨by omega, by omega⟩ rfl dX7_calmestWait_83 (fun r83 => ?_)
    refine aw_imul dX7_calmestWait_84 ?_
    refine aw_icmp_ge (tgt := 124) dX7_calmestWait_85 (by decide) (by first | assumption | omega) (by first | assumption | omega) (fun c85 => ?_) (fun c85 => ?_)
    · refine aw_iload_n (i := 3) (q := 3) dX7_calmestWait_124 rfl rfl ?_
      exact aw_iret ⟨_, rfl, rfl, rfl, hf, Or.inr ⟨hb, Or.inr ⟨hg, Or.inr ⟨hsw, ⟨by omega, by omega⟩, (fun j hj => by have := k2 j hj; omega), (fun j hj => by have := k3 j (by omega); omega)⟩⟩⟩⟩ (Nat.le_refl _) (Nat.le_refl _) dX7_calmestWait_125
    · refine aw_aload_n (i := 0) (q := 0) dX7_calmestWait_88 rfl rfl ?_
      refine aw_iload (i := 5) (q := 5) dX7_calmestWait_89 rfl ?_
      refine aw_cVp (As := [iI z]) (st := []) clX7_327 (s_X7_worstBy (mi := m2) hR (by omega) (fun j a c => hr93 j (by omega) (by omega)) hr94) SH_58 rfl (by decide) rfl rfl (Nat.le_of_ble_eq_true rfl) (by decide) (by decide) (Nat.le_refl _) (Nat.le_refl _) dX7_calmestWait_91 (fun v91 hv91 => ?_)
      have hg9 := hG z (by omega) (by omega)
      rw [hg9] at hv91
      have hgr := gsM_rng hB hW (b := b) (g := g) hb hg z.toNat
      refine aw_istore (i := 6) (lv' := [(0, .ref 58), (1, iI b), (2, iI g), (3, iI c9), (4, iI l9), (5, iI z), (6, iI v91)]) [1, 2, 3, 4, 5, 6, 0] dX7_calmestWait_94 (by decide) rfl ?_
      refine aw_iload (i := 5) (q := 5) dX7_calmestWait_96 rfl ?_
      refine aw_if_le (tgt := 111) dX7_calmestWait_98 (by decide) (by first | assumption | omega) (fun c98 => ?_) (fun c98 => ?_)
      · refine aw_iload (i := 5) (q := 5) dX7_calmestWait_111 rfl ?_
        refine aw_istore_n (i := 3) (lv' := [(0, .ref 58), (1, iI b), (2, iI g), (3, iI z), (4, iI l9), (5, iI z), (6, iI v91)]) [1, 2, 3, 0, 4, 5, 6] dX7_calmestWait_113 rfl (by decide) rfl ?_
        refine aw_iload (i := 6) (q := 6) dX7_calmestWait_114 rfl ?_
        refine aw_istore (i := 4) (lv' := [(0, .ref 58), (1, iI b), (2, iI g), (3, iI z), (4, iI v91), (5, iI z), (6, iI v91)]) [1, 2, 3, 4, 0, 5, 6] dX7_calmestWait_116 (by decide) rfl ?_
        refine aw_sub (lv' := [(0, .ref 58), (1, iI b), (2, iI g), (3, iI z), (4, iI v91), (5, iI z)]) [0, 1, 2, 3, 4, 5] rfl ?_
        refine aw_iinc (i := 5) (q := 5) (x := z) (lv' := [(0, .ref 58), (1, iI b), (2, iI g), (3, iI z), (4, iI v91), (5, iI (z + 1))]) [1, 2, 3, 4, 5, 0] dX7_calmestWait_118 rfl (by decide) rfl ?_
        refine aw_goto (tgt := 75) dX7_calmestWait_121 (by decide) ?_
        exact ih z v91 (z + 1) (by omega) (fun j hj => by have := k3 j hj; omega) (fun j hj => by by_cases e9 : j = z.toNat; (subst e9; omega); (have := k3 j (by omega); omega)) (by omega) (by omega) (by omega)
      · refine aw_iload (i := 6) (q := 6) dX7_calmestWait_101 rfl ?_
        refine aw_iload (i := 4) (q := 4) dX7_calmestWait_103 rfl ?_
        refine aw_icmp_lt (tgt := 111) dX7_calmestWait_105 (by decide) (by first | assumption | omega) (by first | assumption | omega) (fun c105 => ?_) (fun c105 => ?_)
        · refine aw_iload (i := 5) (q := 5) dX7_calmestWait_111 rfl ?_
          refine aw_istore_n (i := 3) (lv' := [(0, .ref 58), (1, iI b), (2, iI g), (3, iI z), (4, iI l9), (5, iI z), (6, iI v91)]) [1, 2, 3, 0, 4, 5, 6] dX7_calmestWait_113 rfl (by decide) rfl ?_
          refine aw_iload (i := 6) (q := 6) dX7_calmestWait_114 rfl ?_
          refine aw_istore (i := 4) (lv' := [(0, .ref 58), (1, iI b), (2, iI g), (3, iI z), (4, iI v91), (5, iI z), (6, iI v91)]) [1, 2, 3, 4, 0, 5, 6] dX7_calmestWait_116 (by decide) rfl ?_
          refine aw_sub (lv' := [(0, .ref 58), (1, iI b), (2, iI g), (3, iI z), (4, iI v91), (5, iI z)]) [0, 1, 2, 3, 4, 5] rfl ?_
          refine aw_iinc (i := 5) (q := 5) (x := z) (lv' := [(0, .ref 58), (1, iI b), (2, iI g), (3, iI z), (4, iI v91), (5, iI (z + 1))]) [1, 2, 3, 4, 5, 0] dX7_calmestWait_118 rfl (by decide) rfl ?_
          refine aw_goto (tgt := 75) dX7_calmestWait_121 (by decide) ?_
          exact ih z v91 (z + 1) (by omega) (fun j hj => by have := k3 j hj; omega) (fun j hj => by by_cases e9 : j = z.toNat; (subst e9; omega); (have := k3 j (by omega); omega)) (by omega) (by omega) (by omega)
        · refine aw_goto (tgt := 118) dX7_calmestWait_108 (by decide) ?_
          refine aw_sub (lv' := [(0, .ref 58), (1, iI b), (2, iI g), (3, iI c9), (4, iI l9), (5, iI z)]) [0, 1, 2, 3, 4, 5] rfl ?_
          refine aw_iinc (i := 5) (q := 5) (x := z) (lv' := [(0, .ref 58), (1, iI b), (2, iI g), (3, iI c9), (4, iI l9), (5, iI (z + 1))]) [1, 2, 3, 4, 5, 0] dX7_calmestWait_118 rfl (by decide) rfl ?_
          refine aw_goto (tgt := 75) dX7_calmestWait_121 (by decide) ?_
          exact ih c9 l9 (z + 1) (by omega) k2 (fun j hj => by by_cases e9 : j = z.toNat; (subst e9; omega); (exact k3 j (by omega))) k4 (by omega) (by omega)
theorem t_calmestWait {mr : aR} (hR : Rok mr) {mi : aM} {b g : Int} (h_b : -2147483648 ≤ b ∧ b ≤ 2147483647) (h_g : -2147483648 ≤ g ∧ g ≤ 2147483647) (hB : mB mi) (hW : mW mi) : AWm RX7 cX7_calmestWait 7 3 (Pi mr (fun r m => fr93 mi m ∧ ((¬ (0 ≤ b ∧ b < mi 58 6) ∧ r = -2) ∨ ((0 ≤ b ∧ b < mi 58 6) ∧ ((¬ (1 ≤ g ∧ g ≤ 1000) ∧ r = -3) ∨ ((1 ≤ g ∧ g ≤ 1000) ∧ ((mi 86 b ≠ 0 ∧ r = -6) ∨ (mi 86 b = 0 ∧ (0 ≤ r ∧ r ≤ 2 * mi 62 b - 1) ∧ (∀ j : Nat, (j : Int) < r → gsM mi b g (r.toNat) < gsM mi b g (j)) ∧ ∀ j : Nat, (j : Int) ≤ 2 * mi 62 b - 1 → gsM mi b g (r.toNat) ≤ gsM mi b g (j))))))))) 5 [(0, .ref 58), (1, iI b), (2, iI g)] [] mi mr := by
  have hn := hB.1
  have hnw := hB.2.1
  have hS : ∀ i : Int, 0 ≤ i → i < mi 58 6 → mi 90 i = 1 ∨ mi 90 i = -1 ∨ mi 86 i = 0 := fun i a c => (hW i a c).2.1
  refine aw_aload_n (i := 0) (q := 0) dX7_calmestWait_5 rfl rfl ?_
  refine aw_iload_n (i := 1) (q := 1) dX7_calmestWait_6 rfl rfl ?_
  refine aw_cVp (As := [iI b]) (st := []) clX7_149 (s_X7_isBell hR (by omega) (by first | omega | (rw [aup_k (a := 58) (x := 58) (j := 6) (by decide)]; omega))) SH_58 rfl (by decide) rfl rfl (Nat.le_of_ble_eq_true rfl) (by decide) (by decide) (Nat.le_refl _) (Nat.le_refl _) dX7_calmestWait_7 (fun v7 hv7 => ?_)
  try rw [aup_k (a := 58) (x := 58) (j := 6) (by decide)] at hv7
  refine aw_if_ne (tgt := 16) dX7_calmestWait_10 (by decide) (by first | assumption | omega) (fun c10 => ?_) (fun c10 => ?_)
  · refine aw_iload_n (i := 2) (q := 2) dX7_calmestWait_16 rfl rfl ?_
    refine aw_i2l dX7_calmestWait_17 (by first | assumption | omega) ?_
    refine aw_lconst (x := 1) dX7_calmestWait_18 rfl ?_
    refine aw_ldc2 (x := 1000) coX7_319 rfl dX7_calmestWait_19 ?_
    refine aw_cSp (As := [lL g, lL 1, lL 1000]) (st := []) clX7_135 (s_X7_isIn hR (by omega) (by omega) (by omega)) rfl rfl (Nat.le_of_ble_eq_true rfl) (by decide) (by decide) (Nat.le_refl _) (Nat.le_refl _) dX7_calmestWait_22 (fun v22 hv22 => ?_)
    refine aw_if_ne (tgt := 31) dX7_calmestWait_25 (by decide) (by first | assumption | omega) (fun c25 => ?_) (fun c25 => ?_)
    · obtain ⟨k59, k60, k61, k62, k63, k86, k87, k88⟩ := hB.2.2 b (by omega) (by omega)
      refine aw_aload_n (i := 0) (q := 0) dX7_calmestWait_31 rfl rfl ?_
      refine aw_getR (r := 86) flX7_99 SH_58 (by decide) rfl (rk_58_44 hR) dX7_calmestWait_32 ?_
      refine aw_iload_n (i := 1) (q := 1) dX7_calmestWait_35 rfl rfl ?_
      refine aw_zaldv (x := mi 86 b) SH_86 (by decide) ⟨by omega, by omega⟩ rfl dX7_calmestWait_36 (fun r36 => ?_)
      refine aw_if_eq (tgt := 43) dX7_calmestWait_37 (by decide) (by first | assumption | omega) (fun c37 => ?_) (fun c37 => ?_)
      · refine aw_aload_n (i := 0) (q := 0) dX7_calmestWait_43 rfl rfl ?_
        refine aw_sipush (x := 600) dX7_calmestWait_44 rfl ?_
        refine aw_iconst dX7_calmestWait_47 ?_
        refine aw_aload_n (i := 0) (q := 0) dX7_calmestWait_48 rfl rfl ?_
        refine aw_getR (r := 62) flX7_23 SH_58 (by decide) rfl (rk_58_4 hR) dX7_calmestWait_49 ?_
        refine aw_iload_n (i := 1) (q := 1) dX7_calmestWait_52 rfl rfl ?_
        refine aw_ialdv (x := mi 62 b) SH_62 (by decide) ⟨by omega, by omega⟩ rfl dX7_calmestWait_53 (fun r53 => ?_)
        refine aw_imul dX7_calmestWait_54 ?_
        refine aw_iadd dX7_calmestWait_55 ?_
        refine aw_iconst dX7_calmestWait_56 ?_
        refine aw_isub dX7_calmestWait_57 ?_
        refine aw_cVv (As := [iI ((600 + (2 * (mi 62 b))) - 1)]) (st := []) clX7_321 (s_X7_laysShake hR hB hW hS (by omega)) SH_58 rfl (by decide) rfl rfl (Nat.le_of_ble_eq_true rfl) (by decide) (by decide) (Nat.le_refl _) (Nat.le_refl _) dX7_calmestWait_58 (fun m1 hm1 => ?_)
        obtain ⟨hm1a, hm1b⟩ := hm1
        refine aw_aload_n (i := 0) (q := 0) dX7_calmestWait_61 rfl rfl ?_
        refine aw_iload_n (i := 1) (q := 1) dX7_calmestWait_62 rfl rfl ?_
        refine aw_iload_n (i := 2) (q := 2) dX7_calmestWait_63 rfl rfl ?_
        refine aw_cVv (As := [iI b, iI g]) (st := []) clX7_324 (s_X7_laysStarted (mi := m1) hR (by omega) (by rw [hm1a 61 b (by decide)]; exact k61) (by rw [hm1a 62 b (by decide)]; exact k62) (by omega) (by rw [hm1a 58 9 (by decide)]; exact hnw)) SH_58 rfl (by decide) rfl rfl (Nat.le_of_ble_eq_true rfl) (by decide) (by decide) (Nat.le_refl _) (Nat.le_refl _) dX7_calmestWait_64 (fun m2 hm2 => ?_)
        obtain ⟨hm2a, hm2b⟩ := hm2
        have g2 : fr93 mi m2 := fun x j a c => by rw [hm2a x j c]; exact hm1a x j a
        have h93 : ∀ j : Int, m2 93 j = m1 93 j := fun j => hm2a 93 j (by decide)
        have hst : ∀ j : Nat, stM m1 b g j = stM mi b g j := fun j => by unfold stM; rw [hm1a 61 b (by decide), hm1a 62 b (by decide), hm1a 58 9 (by decide)]
        have h94 : ∀ j : Int, 0 ≤ j → j ≤ 600 → m2 94 j = stM mi b g j.toNat := fun j a c => by rw [hm2b j a c, hst]
        have e9 : m2 58 9 = mi 58 9 := g2 _ _ (by decide) (by decide)
        have e8 : m2 58 8 = mi 58 8 := g2 _ _ (by decide) (by decide)
        have e62 : m2 62 b = mi 62 b := g2 _ _ (by decide) (by decide)
        refine aw_iconst dX7_calmestWait_67 ?_
        refine aw_istore_n (i := 3) (lv' := [(0, .ref 58), (1, iI b), (2, iI g), (3, iI 0)]) [1, 2, 3, 0] dX7_calmestWait_68 rfl (by decide) rfl ?_
        refine aw_iconst dX7_calmestWait_69 ?_
        refine aw_istore (i := 4) (lv' := [(0, .ref 58), (1, iI b), (2, iI g), (3, iI 0), (4, iI 0)]) [1, 2, 3, 4, 0] dX7_calmestWait_70 (by decide) rfl ?_
        refine aw_iconst dX7_calmestWait_72 ?_
        refine aw_istore (i := 5) (lv' := [(0, .ref 58), (1, iI b), (2, iI g), (3, iI 0), (4, iI 0), (5, iI 0)]) [1, 2, 3, 4, 5, 0] dX7_calmestWait_73 (by decide) rfl ?_
        exact l_mcalm hR g2 hB hW ⟨by omega, by omega⟩ ⟨by omega, by omega⟩ (by omega) k62 (fun j a c => by rw [h93, hm1b j a (by omega)]; have := shM_r2 hB hW j.toNat; omega) (fun j a c => by rw [h94 j a (by omega)]; have := stM_rng hB (b := b) (g := g) (by omega) (by omega) j.toNat; omega) (fun w w0 w1 => mxA_congr (fun k hk => by rw [h94 (k : Int) (by omega) (by omega), h93, hm1b _ (by omega) (by omega), Int.toNat_natCast, show (w + (k : Int)).toNat = w.toNat + k by omega])) ((2 * mi 62 b).toNat + 1) 0 0 0 (by omega) (fun j hj => by omega) (fun j hj => by omega) (by omega) (by omega) (by omega)
      · refine aw_bipush (x := -6) dX7_calmestWait_40 rfl ?_
        exact aw_iret ⟨_, rfl, rfl, rfl, (fun _ _ _ _ => rfl), Or.inr ⟨⟨by omega, by omega⟩, Or.inr ⟨⟨by omega, by omega⟩, Or.inl ⟨by omega, rfl⟩⟩⟩⟩ (Nat.le_refl _) (Nat.le_refl _) dX7_calmestWait_42
    · refine aw_bipush (x := -3) dX7_calmestWait_28 rfl ?_
      exact aw_iret ⟨_, rfl, rfl, rfl, (fun _ _ _ _ => rfl), Or.inr ⟨⟨by omega, by omega⟩, Or.inl ⟨by omega, rfl⟩⟩⟩ (Nat.le_refl _) (Nat.le_refl _) dX7_calmestWait_30
  · refine aw_bipush (x := -2) dX7_calmestWait_13 rfl ?_
    exact aw_iret ⟨_, rfl, rfl, rfl, (fun _ _ _ _ => rfl), Or.inl ⟨by omega, rfl⟩⟩ (Nat.le_refl _) (Nat.le_refl _) dX7_calmestWait_15
theorem s_X7_calmestWait {mr : aR} (hR : Rok mr) {mi : aM} {b g : Int} (h_b : -2147483648 ≤ b ∧ b ≤ 2147483647) (h_g : -2147483648 ≤ g ∧ g ≤ 2147483647) (hB : mB (aup mi 58 0 0)) (hW : mW (aup mi 58 0 0)) : SPg yX7_calmestWait cX7_calmestWait 7 (some .int) 3 [.ref 58, iI b, iI g] mi mr (Pi mr (fun r m => fr93 (aup mi 58 0 0) m ∧ ((¬ (0 ≤ b ∧ b < (aup mi 58 0 0) 58 6) ∧ r = -2) ∨ ((0 ≤ b ∧ b < (aup mi 58 0 0) 58 6) ∧ ((¬ (1 ≤ g ∧ g ≤ 1000) ∧ r = -3) ∨ ((1 ≤ g ∧ g ≤ 1000) ∧ (((aup mi 58 0 0) 86 b ≠ 0 ∧ r = -6) ∨ ((aup mi 58 0 0) 86 b = 0 ∧ (0 ≤ r ∧ r ≤ 2 * (aup mi 58 0 0) 62 b - 1) ∧ (∀ j : Nat, (j : Int) < r → gsM (aup mi 58 0 0) b g (r.toNat) < gsM (aup mi 58 0 0) b g (j)) ∧ ∀ j : Nat, (j : Int) ≤ 2 * (aup mi 58 0 0) 62 b - 1 → gsM (aup mi 58 0 0) b g (r.toNat) ≤ gsM (aup mi 58 0 0) b g (j))))))))) := by
  refine SPg.int rfl (by decide +kernel) (Nat.le_of_ble_eq_true rfl) ?_
  show AWm RX7 cX7_calmestWait 7 3 _ 0 [(0, .ref 58), (1, iI b), (2, iI g)] [] mi mr
  refine aw_aload_n (i := 0) (q := 0) dX7_calmestWait_0 rfl rfl ?_
  refine aw_iconst dX7_calmestWait_1 ?_
  refine aw_putIk 0 flX7_1 SH_58 (by decide) rfl rfl rfl (by decide) dX7_calmestWait_2 ?_
  exact t_calmestWait (mi := aup mi 58 0 0) hR h_b h_g hB hW
