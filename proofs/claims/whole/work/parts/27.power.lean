-- part 27: weave, fastestTicks, powerNeeded (printed by wip/whole/gen/p27.py)
theorem s_X6_weave {mr : aR} (hR : Rok mr) {mi : aM} {w T s W : Int} (h_w : -2147483648 ≤ w ∧ w ≤ 2147483647) (h_T : -2147483648 ≤ T ∧ T ≤ 2147483647) (h_s : -2147483648 ≤ s ∧ s ≤ 2147483647) (h_W : -2147483648 ≤ W ∧ W ≤ 2147483647) (hc : cB mi) (hpl : 1 ≤ mi 1 14 ∧ mi 1 14 ≤ 12) (ho : sOk mi 8) (hp : ∀ x : Int, 0 ≤ x → x < 5 → pOk mi (40 + 2 * x.toNat)) : SPg yX6_weave cX6_weave 5 (some .int) 6 [.ref 1, iI w, iI T, iI s, iI W] mi mr (Pi mr (fun r m => (¬ (0 ≤ w ∧ w < 5) ∧ r = -2 ∧ m = mi) ∨ ((0 ≤ w ∧ w < 5) ∧ ((mi (40 + 2 * w.toNat) 1 = 0 ∧ r = -9 ∧ m = mi) ∨ (mi (40 + 2 * w.toNat) 1 ≠ 0 ∧ ((¬ ((0 ≤ T ∧ T ≤ 100000) ∧ (1 ≤ s ∧ s ≤ 200) ∧ (0 ≤ W ∧ W ≤ 500)) ∧ r = -3 ∧ m = mi) ∨ (((0 ≤ T ∧ T ≤ 100000) ∧ (1 ≤ s ∧ s ≤ 200) ∧ (0 ≤ W ∧ W ≤ 500)) ∧ fr817 mi m ∧ sOk m 8 ∧ ((r = -1 ∧ (∀ v : Int, 0 ≤ v → v ≤ W → okT mi (fun k => mi (40 + 2 * w.toNat + 1) k) (mi 1 11).toNat (mi (40 + 2 * w.toNat) 1).toNat s (T + v) ≠ 0) ∧ sL m 8 = sL mi 8) ∨ ((0 ≤ r ∧ r ≤ W) ∧ okT mi (fun k => mi (40 + 2 * w.toNat + 1) k) (mi 1 11).toNat (mi (40 + 2 * w.toNat) 1).toNat s (T + r) = 0 ∧ (∀ v : Int, 0 ≤ v → v < r → okT mi (fun k => mi (40 + 2 * w.toNat + 1) k) (mi 1 11).toNat (mi (40 + 2 * w.toNat) 1).toNat s (T + v) ≠ 0) ∧ ((plL (eC mi) (dC mi) (outL (fun k => mi (40 + 2 * w.toNat + 1) k) (mi 1 11).toNat (T + r) s (mi (40 + 2 * w.toNat) 1).toNat 0) (sL mi 8)).2).Perm (sL m 8)))))))))) := by
  refine SPg.int rfl (by decide +kernel) (Nat.le_of_ble_eq_true rfl) ?_
  show AWm RX6 cX6_weave 5 6 _ 0 [(0, .ref 1), (1, iI w), (2, iI T), (3, iI s), (4, iI W)] [] mi mr
  refine aw_iload_n (i := 1) (q := 1) dX6_weave_0 rfl rfl ?_
  refine aw_cSp (As := [iI w]) (st := []) clX6_181 (s_X6_isPattern hR (by omega)) rfl rfl (Nat.le_of_ble_eq_true rfl) (by decide) (by decide) (Nat.le_refl _) (Nat.le_refl _) dX6_weave_1 (fun v1 hv1 => ?_)
  refine aw_if_ne (tgt := 10) dX6_weave_4 (by decide) (by first | assumption | omega) (fun c4 => ?_) (fun c4 => ?_)
  · refine aw_aload_n (i := 0) (q := 0) dX6_weave_10 rfl rfl ?_
    refine aw_getR (r := 23) flX6_46 SH_1 (by decide) rfl (rk_1_6 hR) dX6_weave_11 ?_
    refine aw_iload_n (i := 1) (q := 1) dX6_weave_14 rfl rfl ?_
    refine aw_aald (r := 40 + 2 * (w).toNat) SH_23 (by decide) (by decide) ⟨by omega, by omega⟩ (hR.2.2 _ (by omega) (by omega)) dX6_weave_15 ?_
    refine aw_cVp (As := []) (st := []) clX6_205 (s_X2_isMissing hR (SH_pat ⟨by omega, by omega⟩).1 ⟨by omega, by omega⟩) (SH_pat ⟨by omega, by omega⟩).1 rfl ⟨by omega, by omega⟩ rfl rfl (Nat.le_of_ble_eq_true rfl) (by decide) (by decide) (Nat.le_refl _) (Nat.le_refl _) dX6_weave_16 (fun v16 hv16 => ?_)
    refine aw_if_eq (tgt := 25) dX6_weave_19 (by decide) (by first | assumption | omega) (fun c19 => ?_) (fun c19 => ?_)
    · refine aw_iload_n (i := 2) (q := 2) dX6_weave_25 rfl rfl ?_
      refine aw_iconst dX6_weave_26 ?_
      refine aw_ldc (x := 100000) coX6_107 rfl dX6_weave_27 ?_
      refine aw_cSp (As := [iI T, iI 0, iI 100000]) (st := []) clX6_87 (s_X6_outside hR (by omega) (by omega) (by omega)) rfl rfl (Nat.le_of_ble_eq_true rfl) (by decide) (by decide) (Nat.le_refl _) (Nat.le_refl _) dX6_weave_29 (fun v29 hv29 => ?_)
      refine aw_if_ne (tgt := 58) dX6_weave_32 (by decide) (by first | assumption | omega) (fun c32 => ?_) (fun c32 => ?_)
      · refine aw_bipush (x := -3) dX6_weave_58 rfl ?_
        exact aw_iret ⟨_, rfl, rfl, rfl, Or.inr ⟨by omega, Or.inr ⟨by omega, Or.inl ⟨by omega, rfl, rfl⟩⟩⟩⟩ (Nat.le_refl _) (Nat.le_refl _) dX6_weave_60
      · refine aw_iload_n (i := 3) (q := 3) dX6_weave_35 rfl rfl ?_
        refine aw_iconst dX6_weave_36 ?_
        refine aw_sipush (x := 200) dX6_weave_37 rfl ?_
        refine aw_cSp (As := [iI s, iI 1, iI 200]) (st := []) clX6_87 (s_X6_outside hR (by omega) (by omega) (by omega)) rfl rfl (Nat.le_of_ble_eq_true rfl) (by decide) (by decide) (Nat.le_refl _) (Nat.le_refl _) dX6_weave_40 (fun v40 hv40 => ?_)
        refine aw_if_ne (tgt := 58) dX6_weave_43 (by decide) (by first | assumption | omega) (fun c43 => ?_) (fun c43 => ?_)
        · refine aw_bipush (x := -3) dX6_weave_58 rfl ?_
          exact aw_iret ⟨_, rfl, rfl, rfl, Or.inr ⟨by omega, Or.inr ⟨by omega, Or.inl ⟨by omega, rfl, rfl⟩⟩⟩⟩ (Nat.le_refl _) (Nat.le_refl _) dX6_weave_60
        · refine aw_iload (i := 4) (q := 4) dX6_weave_46 rfl ?_
          refine aw_iconst dX6_weave_48 ?_
          refine aw_sipush (x := 500) dX6_weave_49 rfl ?_
          refine aw_cSp (As := [iI W, iI 0, iI 500]) (st := []) clX6_87 (s_X6_outside hR (by omega) (by omega) (by omega)) rfl rfl (Nat.le_of_ble_eq_true rfl) (by decide) (by decide) (Nat.le_refl _) (Nat.le_refl _) dX6_weave_52 (fun v52 hv52 => ?_)
          refine aw_if_eq (tgt := 61) dX6_weave_55 (by decide) (by first | assumption | omega) (fun c55 => ?_) (fun c55 => ?_)
          · refine aw_aload_n (i := 0) (q := 0) dX6_weave_61 rfl rfl ?_
            refine aw_aload_n (i := 0) (q := 0) dX6_weave_62 rfl rfl ?_
            refine aw_getR (r := 23) flX6_46 SH_1 (by decide) rfl (rk_1_6 hR) dX6_weave_63 ?_
            refine aw_iload_n (i := 1) (q := 1) dX6_weave_66 rfl rfl ?_
            refine aw_aald (r := 40 + 2 * (w).toNat) SH_23 (by decide) (by decide) ⟨by omega, by omega⟩ (hR.2.2 _ (by omega) (by omega)) dX6_weave_67 ?_
            refine aw_iload_n (i := 2) (q := 2) dX6_weave_68 rfl rfl ?_
            refine aw_iload_n (i := 3) (q := 3) dX6_weave_69 rfl rfl ?_
            refine aw_iload (i := 4) (q := 4) dX6_weave_70 rfl ?_
            refine aw_cVi (As := [.ref (40 + 2 * (w).toNat), iI T, iI s, iI W]) (st := []) clX6_222 (s_X6_weaveFrom hR ⟨isP_of hR ⟨by omega, by omega⟩, hp w (by omega) (by omega), hc, hpl, by omega, by omega⟩ ho (by omega) (by omega)) SH_1 rfl (by decide) rfl rfl (Nat.le_of_ble_eq_true rfl) (by decide) (by decide) (Nat.le_refl _) (Nat.le_refl _) dX6_weave_72 (fun v72 m1 hv72 => ?_)
            have hv72r : -1 ≤ v72 ∧ v72 ≤ 500 := by rcases hv72.2.2 with q | q; (have := q.1; omega); (have := q.1; omega)
            exact aw_iret ⟨_, rfl, rfl, rfl, Or.inr ⟨by omega, Or.inr ⟨by omega, Or.inr ⟨by omega, hv72⟩⟩⟩⟩ (Nat.le_refl _) (Nat.le_refl _) dX6_weave_75
          · refine aw_bipush (x := -3) dX6_weave_58 rfl ?_
            exact aw_iret ⟨_, rfl, rfl, rfl, Or.inr ⟨by omega, Or.inr ⟨by omega, Or.inl ⟨by omega, rfl, rfl⟩⟩⟩⟩ (Nat.le_refl _) (Nat.le_refl _) dX6_weave_60
    · refine aw_bipush (x := -9) dX6_weave_22 rfl ?_
      exact aw_iret ⟨_, rfl, rfl, rfl, Or.inr ⟨by omega, Or.inl ⟨by omega, rfl, rfl⟩⟩⟩ (Nat.le_refl _) (Nat.le_refl _) dX6_weave_24
  · refine aw_bipush (x := -2) dX6_weave_7 rfl ?_
    exact aw_iret ⟨_, rfl, rfl, rfl, Or.inl ⟨by omega, rfl, rfl⟩⟩ (Nat.le_refl _) (Nat.le_refl _) dX6_weave_9
theorem plL0_fr {mi m : aM} {mr : aR} {a : Nat} {T s : Int} (h : isP mr a) (hf : fr13 mi m) : plL (e0C m) (dC m) (outL (fun k => m (a + 1) k) (m 1 11).toNat T s (m a 1).toNat 0) [] = plL (e0C mi) (dC mi) (outL (fun k => mi (a + 1) k) (mi 1 11).toNat T s (mi a 1).toNat 0) [] := by
  rw [outL_fr h hf, dC_fr hf]
  congr 1
  funext L b t
  unfold e0C
  rw [hf (28 + b.toNat) 0 (by omega), hf (28 + b.toNat) 1 (by omega), hf 1 14 (by omega)]
theorem l_fast {mr : aR} (hR : Rok mr) {mi : aM} {w : Int} (hw : 0 ≤ w ∧ w < 5) (hne : mi (40 + 2 * w.toNat) 1 ≠ 0) (hc : cB mi) (hpl : 1 ≤ mi 1 14 ∧ mi 1 14 ≤ 12) (hp : ∀ x : Int, 0 ≤ x → x < 5 → pOk mi (40 + 2 * x.toNat)) : ∀ (n : Nat) (m : aM) (z : Int), fr13 mi m → (∀ t : Int, 1 ≤ t → t < z → (fun s => (plL (e0C mi) (dC mi) (outL (fun k => mi (40 + 2 * w.toNat + 1) k) (mi 1 11).toNat 0 s (mi (40 + 2 * w.toNat) 1).toNat 0) []).1) t ≠ 0) → (1 ≤ z ∧ z ≤ 201) → 201 - z < n → AWm RX6 cX6_fastestTicks 3 5 (Pi mr (fun r m => fr13 mi m ∧ ((¬ (0 ≤ w ∧ w < 5) ∧ r = -2) ∨ ((0 ≤ w ∧ w < 5) ∧ ((mi (40 + 2 * w.toNat) 1 = 0 ∧ r = -9) ∨ (mi (40 + 2 * w.toNat) 1 ≠ 0 ∧ frsT (fun s => (plL (e0C mi) (dC mi) (outL (fun k => mi (40 + 2 * w.toNat + 1) k) (mi 1 11).toNat 0 s (mi (40 + 2 * w.toNat) 1).toNat 0) []).1) 1 200 r)))))) 27 [(0, .ref 1), (1, iI w), (2, iI z)] [] m mr := by
  intro n
  induction n with
  | zero => intro m z hfr h2 h3 h4; omega
  | succ n ih =>
    intro m z hfr h2 h3 h4
    refine aw_iload_n (i := 2) (q := 2) dX6_fastestTicks_27 rfl rfl ?_
    refine aw_sipush (x := 200) dX6_fastestTicks_28 rfl ?_
    refine aw_icmp_gt (tgt := 56) dX6_fastestTicks_31 (by decide) (by first | assumption | omega) (by decide) (fun c31 => ?_) (fun c31 => ?_)
    · refine aw_iconst dX6_fastestTicks_56 ?_
      exact aw_iret ⟨_, rfl, rfl, rfl, ⟨hfr, Or.inr ⟨by omega, Or.inr ⟨hne, Or.inr ⟨rfl, fun t a1 a2 => h2 t a1 (by omega)⟩⟩⟩⟩⟩ (Nat.le_refl _) (Nat.le_refl _) dX6_fastestTicks_57
    · refine aw_aload_n (i := 0) (q := 0) dX6_fastestTicks_34 rfl rfl ?_
      refine aw_aload_n (i := 0) (q := 0) dX6_fastestTicks_35 rfl rfl ?_
      refine aw_getR (r := 23) flX6_46 SH_1 (by decide) rfl (rk_1_6 hR) dX6_fastestTicks_36 ?_
      refine aw_iload_n (i := 1) (q := 1) dX6_fastestTicks_39 rfl rfl ?_
      refine aw_aald (r := 40 + 2 * (w).toNat) SH_23 (by decide) (by decide) ⟨by omega, by omega⟩ (hR.2.2 _ (by omega) (by omega)) dX6_fastestTicks_40 ?_
      refine aw_iload_n (i := 2) (q := 2) dX6_fastestTicks_41 rfl rfl ?_
      refine aw_cVi (As := [.ref (40 + 2 * (w).toNat), iI z]) (st := []) clX6_226 (s_X6_fitsAlone (mi := m) hR (dP_fr (T := 0) (s := z) ⟨isP_of hR ⟨by omega, by omega⟩, hp w (by omega) (by omega), hc, hpl, by omega, by omega⟩ hfr)) SH_1 rfl (by decide) rfl rfl (Nat.le_of_ble_eq_true rfl) (by decide) (by decide) (Nat.le_refl _) (Nat.le_refl _) dX6_fastestTicks_42 (fun v42 m1 hv42 => ?_)
      have hf1 : fr13 mi m1 := fun x j hx => (hv42.2 x j hx).trans (hfr x j hx)
      have hq9 := hv42.1
      rw [plL0_fr (isP_of hR ⟨by omega, by omega⟩) hfr] at hq9
      refine aw_if_eq (tgt := 50) dX6_fastestTicks_45 (by decide) (by first | assumption | omega) (fun c45 => ?_) (fun c45 => ?_)
      · refine aw_iinc (i := 2) (q := 2) (x := z) (lv' := [(0, .ref 1), (1, iI w), (2, iI (z + 1))]) [1, 2, 0] dX6_fastestTicks_50 rfl (by decide) rfl ?_
        refine aw_goto (tgt := 27) dX6_fastestTicks_53 (by decide) ?_
        have hne9 : (fun s => (plL (e0C mi) (dC mi) (outL (fun k => mi (40 + 2 * w.toNat + 1) k) (mi 1 11).toNat 0 s (mi (40 + 2 * w.toNat) 1).toNat 0) []).1) z ≠ 0 := by rcases hq9 with ⟨q, -⟩ | ⟨-, q⟩; (omega); (exact q)
        exact ih _ (z + 1) hf1 (fun t a1 a2 => by by_cases e9 : t = z; (rw [e9]; exact hne9); (exact h2 t a1 (by omega))) (by omega) (by omega)
      · refine aw_iload_n (i := 2) (q := 2) dX6_fastestTicks_48 rfl rfl ?_
        exact aw_iret ⟨_, rfl, rfl, rfl, ⟨hf1, Or.inr ⟨by omega, Or.inr ⟨hne, Or.inl ⟨by omega, by omega, by rcases hq9 with ⟨-, q⟩ | ⟨q, -⟩; (exact q); (omega), h2⟩⟩⟩⟩⟩ (Nat.le_refl _) (Nat.le_refl _) dX6_fastestTicks_49
theorem s_X6_fastestTicks {mr : aR} (hR : Rok mr) {mi : aM} {w : Int} (h_w : -2147483648 ≤ w ∧ w ≤ 2147483647) (hc : cB mi) (hpl : 1 ≤ mi 1 14 ∧ mi 1 14 ≤ 12) (hp : ∀ x : Int, 0 ≤ x → x < 5 → pOk mi (40 + 2 * x.toNat)) : SPg yX6_fastestTicks cX6_fastestTicks 3 (some .int) 5 [.ref 1, iI w] mi mr (Pi mr (fun r m => fr13 mi m ∧ ((¬ (0 ≤ w ∧ w < 5) ∧ r = -2) ∨ ((0 ≤ w ∧ w < 5) ∧ ((mi (40 + 2 * w.toNat) 1 = 0 ∧ r = -9) ∨ (mi (40 + 2 * w.toNat) 1 ≠ 0 ∧ frsT (fun s => (plL (e0C mi) (dC mi) (outL (fun k => mi (40 + 2 * w.toNat + 1) k) (mi 1 11).toNat 0 s (mi (40 + 2 * w.toNat) 1).toNat 0) []).1) 1 200 r)))))) := by
  refine SPg.int rfl (by decide +kernel) (Nat.le_of_ble_eq_true rfl) ?_
  show AWm RX6 cX6_fastestTicks 3 5 _ 0 [(0, .ref 1), (1, iI w)] [] mi mr
  refine aw_iload_n (i := 1) (q := 1) dX6_fastestTicks_0 rfl rfl ?_
  refine aw_cSp (As := [iI w]) (st := []) clX6_181 (s_X6_isPattern hR (by omega)) rfl rfl (Nat.le_of_ble_eq_true rfl) (by decide) (by decide) (Nat.le_refl _) (Nat.le_refl _) dX6_fastestTicks_1 (fun v1 hv1 => ?_)
  refine aw_if_ne (tgt := 10) dX6_fastestTicks_4 (by decide) (by first | assumption | omega) (fun c4 => ?_) (fun c4 => ?_)
  · refine aw_aload_n (i := 0) (q := 0) dX6_fastestTicks_10 rfl rfl ?_
    refine aw_getR (r := 23) flX6_46 SH_1 (by decide) rfl (rk_1_6 hR) dX6_fastestTicks_11 ?_
    refine aw_iload_n (i := 1) (q := 1) dX6_fastestTicks_14 rfl rfl ?_
    refine aw_aald (r := 40 + 2 * (w).toNat) SH_23 (by decide) (by decide) ⟨by omega, by omega⟩ (hR.2.2 _ (by omega) (by omega)) dX6_fastestTicks_15 ?_
    refine aw_cVp (As := []) (st := []) clX6_205 (s_X2_isMissing hR (SH_pat ⟨by omega, by omega⟩).1 ⟨by omega, by omega⟩) (SH_pat ⟨by omega, by omega⟩).1 rfl ⟨by omega, by omega⟩ rfl rfl (Nat.le_of_ble_eq_true rfl) (by decide) (by decide) (Nat.le_refl _) (Nat.le_refl _) dX6_fastestTicks_16 (fun v16 hv16 => ?_)
    refine aw_if_eq (tgt := 25) dX6_fastestTicks_19 (by decide) (by first | assumption | omega) (fun c19 => ?_) (fun c19 => ?_)
    · refine aw_iconst dX6_fastestTicks_25 ?_
      refine aw_istore_n (i := 2) (lv' := [(0, .ref 1), (1, iI w), (2, iI 1)]) [1, 2, 0] dX6_fastestTicks_26 rfl (by decide) rfl ?_
      exact l_fast hR ⟨by omega, by omega⟩ (by omega) hc hpl hp 202 mi 1 (fun _ _ _ => rfl) (fun t a1 a2 => by omega) (by omega) (by omega)
    · refine aw_bipush (x := -9) dX6_fastestTicks_22 rfl ?_
      exact aw_iret ⟨_, rfl, rfl, rfl, (fun _ _ _ => rfl), Or.inr ⟨by omega, Or.inl ⟨by omega, rfl⟩⟩⟩ (Nat.le_refl _) (Nat.le_refl _) dX6_fastestTicks_24
  · refine aw_bipush (x := -2) dX6_fastestTicks_7 rfl ?_
    exact aw_iret ⟨_, rfl, rfl, rfl, (fun _ _ _ => rfl), Or.inl ⟨by omega, rfl⟩⟩ (Nat.le_refl _) (Nat.le_refl _) dX6_fastestTicks_9
/-- of the bells below b, how many of the step j move at the tick x -/
noncomputable def cnJ (S d : Int → Int) (s x j : Int) : Nat → Int
  | 0 => 0
  | b + 1 => cnJ S d s x j b + pick (bit (S j) b ∧ j * s - d b ≤ x ∧ x < j * s) 1 0
/-- of the steps below k -/
noncomputable def cnK (S d : Int → Int) (s x : Int) (NB : Nat) : Nat → Int
  | 0 => 0
  | k + 1 => cnK S d s x NB k + cnJ S d s x k NB
theorem pick_rng (P : Prop) : 0 ≤ (pick P 1 0 : Int) ∧ (pick P 1 0 : Int) ≤ 1 := by
  by_cases h : P
  · rw [pick_pos h]; decide
  · rw [pick_neg h]; decide
theorem cnJ_rng (S d : Int → Int) (s x j : Int) : ∀ b : Nat, 0 ≤ cnJ S d s x j b ∧ cnJ S d s x j b ≤ b
  | 0 => by simp [cnJ]
  | b + 1 => by
    have h1 := cnJ_rng S d s x j b
    have h2 := pick_rng (bit (S j) b ∧ j * s - d b ≤ x ∧ x < j * s)
    show 0 ≤ cnJ S d s x j b + _ ∧ cnJ S d s x j b + _ ≤ ((b + 1 : Nat) : Int)
    omega
theorem cnK_rng (S d : Int → Int) (s x : Int) (NB : Nat) : ∀ k : Nat, 0 ≤ cnK S d s x NB k ∧ cnK S d s x NB k ≤ NB * (k : Int)
  | 0 => by simp [cnK]
  | k + 1 => by
    have h1 := cnK_rng S d s x NB k
    have h2 := cnJ_rng S d s x k NB
    have e : (NB : Int) * ((k + 1 : Nat) : Int) = NB * (k : Int) + NB := by rw [show ((k + 1 : Nat) : Int) = (k : Int) + 1 from rfl, Int.mul_add, Int.mul_one]
    show 0 ≤ cnK S d s x NB k + _ ∧ cnK S d s x NB k + _ ≤ _
    rw [e]
    omega
theorem pick_le {P Q : Prop} (h : P → Q) : (pick P 1 0 : Int) ≤ pick Q 1 0 := by
  by_cases q : P
  · rw [pick_pos q, pick_pos (h q)]; exact Int.le_refl _
  · rw [pick_neg q]; exact (pick_rng Q).1
theorem cnJ_le {S d : Int → Int} {s x y j : Int} : ∀ c : Nat, (∀ b : Nat, b < c → bit (S j) b → j * s - d b ≤ x → x < j * s → j * s - d b ≤ y ∧ y < j * s) → cnJ S d s x j c ≤ cnJ S d s y j c
  | 0, _ => Int.le_refl _
  | c + 1, h => by
    have h1 := cnJ_le (S := S) (d := d) (s := s) (x := x) (y := y) (j := j) c (fun b hb => h b (by omega))
    have h2 : (pick (bit (S j) c ∧ j * s - d c ≤ x ∧ x < j * s) 1 0 : Int) ≤ pick (bit (S j) c ∧ j * s - d c ≤ y ∧ y < j * s) 1 0 := pick_le (fun q => ⟨q.1, h c (by omega) q.1 q.2.1 q.2.2⟩)
    show cnJ S d s x j c + _ ≤ cnJ S d s y j c + _
    omega
theorem cnK_le {S d : Int → Int} {s x y : Int} {NB : Nat} : ∀ n : Nat, (∀ k b : Nat, k < n → b < NB → bit (S k) b → k * s - d b ≤ x → x < k * s → k * s - d b ≤ y ∧ y < k * s) → cnK S d s x NB n ≤ cnK S d s y NB n
  | 0, _ => Int.le_refl _
  | n + 1, h => by
    have h1 := cnK_le (S := S) (d := d) (s := s) (x := x) (y := y) (NB := NB) n (fun k b hk => h k b (by omega))
    have h2 := cnJ_le (S := S) (d := d) (s := s) (x := x) (y := y) (j := (n : Int)) NB (fun b hb => h n b (by omega) hb)
    show cnK S d s x NB n + _ ≤ cnK S d s y NB n + _
    omega
theorem cnJ_0 {S d : Int → Int} {s x j : Int} : ∀ c : Nat, (∀ b : Nat, b < c → bit (S j) b → ¬ (j * s - d b ≤ x ∧ x < j * s)) → cnJ S d s x j c = 0
  | 0, _ => rfl
  | c + 1, h => by
    have h1 := cnJ_0 (S := S) (d := d) (s := s) (x := x) (j := j) c (fun b hb => h b (by omega))
    show cnJ S d s x j c + _ = 0
    rw [h1, pick_neg (fun q => h c (by omega) q.1 q.2)]
    rfl
theorem cnK_0 {S d : Int → Int} {s x : Int} {NB : Nat} : ∀ n : Nat, (∀ k b : Nat, k < n → b < NB → bit (S k) b → ¬ (k * s - d b ≤ x ∧ x < k * s)) → cnK S d s x NB n = 0
  | 0, _ => rfl
  | n + 1, h => by
    have h1 := cnK_0 (S := S) (d := d) (s := s) (x := x) (NB := NB) n (fun k b hk => h k b (by omega))
    show cnK S d s x NB n + _ = 0
    rw [h1, cnJ_0 NB (fun b hb => h n b (by omega) hb)]
    rfl
/-- the greatest over the ends, just before the steps -/
def mxE (M : Int → Int) (s : Int) (n : Nat) (r : Int) : Prop := (r = 0 ∨ ∃ k : Nat, k < n ∧ r = M (k * s - 1)) ∧ 0 ≤ r ∧ ∀ k : Nat, k < n → M (k * s - 1) ≤ r
/-- the greatest over the starts -/
def mxS (M : Int → Int) (S d : Int → Int) (s : Int) (NB n : Nat) (r : Int) : Prop := (r = 0 ∨ ∃ k b : Nat, k < n ∧ b < NB ∧ bit (S k) b ∧ r = M (k * s - d b)) ∧ 0 ≤ r ∧ ∀ k b : Nat, k < n → b < NB → bit (S k) b → M (k * s - d b) ≤ r
/-- a least number with a property -/
theorem least_ex {P : Nat → Prop} : ∀ n : Nat, (∃ k, k < n ∧ P k) → ∃ k, k < n ∧ P k ∧ ∀ j, j < k → ¬ P j
  | 0, h => by obtain ⟨k, h, -⟩ := h; omega
  | n + 1, h => by
    by_cases q : ∃ k, k < n ∧ P k
    · obtain ⟨k, h1, h2, h3⟩ := least_ex n q
      exact ⟨k, by omega, h2, h3⟩
    · obtain ⟨k, h1, h2⟩ := h
      have e : k = n := by
        by_cases e : k = n
        · exact e
        · exact absurd ⟨k, by omega, h2⟩ q
      exact ⟨k, h1, h2, fun j hj hP => q ⟨j, by omega, hP⟩⟩
theorem mul_mono {s : Int} (hs : 1 ≤ s) {j k : Nat} (h : j ≤ k) : (j : Int) * s ≤ k * s := Int.mul_le_mul_of_nonneg_right (by omega) (by omega)
theorem end_ge {S d : Int → Int} {s : Int} {NB n : Nat} (hs : 1 ≤ s) {r : Int} (h : mxE (fun x => cnK S d s x NB n) s n r) (x : Int) : cnK S d s x NB n ≤ r := by
  by_cases q : ∃ k, k < n ∧ x < (k : Int) * s
  · obtain ⟨f, f1, f2, f3⟩ := least_ex n q
    have h1 : cnK S d s x NB n ≤ cnK S d s (f * s - 1) NB n := cnK_le n (fun k b hk hb hbit q1 q2 => by
      by_cases e : f ≤ k
      · have := mul_mono hs e
        omega
      · exact absurd q2 (f3 k (by omega)))
    exact Int.le_trans h1 (h.2.2 f f1)
  · rw [cnK_0 n (fun k b hk hb hbit q1 => q ⟨k, hk, q1.2⟩)]
    exact h.2.1
/-- the latest of the starts not behind x -/
theorem latest_ex {S d : Int → Int} {s x : Int} {NB : Nat} : ∀ n : Nat, (∃ k b : Nat, k < n ∧ b < NB ∧ bit (S k) b ∧ (k : Int) * s - d b ≤ x) → ∃ k b : Nat, k < n ∧ b < NB ∧ bit (S k) b ∧ (k : Int) * s - d b ≤ x ∧ ∀ k' b' : Nat, k' < n → b' < NB → bit (S k') b' → (k' : Int) * s - d b' ≤ x → (k' : Int) * s - d b' ≤ k * s - d b := by
  have inner : ∀ (j c : Nat), (∃ b : Nat, b < c ∧ bit (S j) b ∧ (j : Int) * s - d b ≤ x) → ∃ b : Nat, b < c ∧ bit (S j) b ∧ (j : Int) * s - d b ≤ x ∧ ∀ b' : Nat, b' < c → bit (S j) b' → (j : Int) * s - d b' ≤ x → (j : Int) * s - d b' ≤ j * s - d b := by
    intro j c
    induction c with
    | zero => rintro ⟨b, h, -⟩; omega
    | succ c ih =>
      intro h
      by_cases q : ∃ b : Nat, b < c ∧ bit (S j) b ∧ (j : Int) * s - d b ≤ x
      · obtain ⟨b, h1, h2, h3, h4⟩ := ih q
        by_cases q2 : bit (S j) c ∧ (j : Int) * s - d c ≤ x ∧ (j : Int) * s - d b ≤ j * s - d c
        · refine ⟨c, by omega, q2.1, q2.2.1, fun b' g1 g2 g3 => ?_⟩
          by_cases e : b' = c
          · rw [e]; exact Int.le_refl _
          · exact Int.le_trans (h4 b' (by omega) g2 g3) q2.2.2
        · refine ⟨b, by omega, h2, h3, fun b' g1 g2 g3 => ?_⟩
          by_cases e : b' = c
          · subst e
            by_cases q3 : (j : Int) * s - d b ≤ j * s - d b'
            · exact absurd ⟨g2, g3, q3⟩ q2
            · omega
          · exact h4 b' (by omega) g2 g3
      · obtain ⟨b, h1, h2, h3⟩ := h
        have e : b = c := by
          by_cases e : b = c
          · exact e
          · exact absurd ⟨b, by omega, h2, h3⟩ q
        subst e
        refine ⟨b, h1, h2, h3, fun b' g1 g2 g3 => ?_⟩
        by_cases e : b' = b
        · rw [e]; exact Int.le_refl _
        · exact absurd ⟨b', by omega, g2, g3⟩ q
  intro n
  induction n with
  | zero => rintro ⟨k, b, h, -⟩; omega
  | succ n ih =>
    intro h
    by_cases q1 : ∃ k b : Nat, k < n ∧ b < NB ∧ bit (S k) b ∧ (k : Int) * s - d b ≤ x
    · obtain ⟨k, b, h1, h2, h3, h4, h5⟩ := ih q1
      by_cases q2 : ∃ b : Nat, b < NB ∧ bit (S n) b ∧ (n : Int) * s - d b ≤ x
      · obtain ⟨c, g1, g2, g3, g4⟩ := inner n NB q2
        by_cases q3 : (k : Int) * s - d b ≤ n * s - d c
        · refine ⟨n, c, by omega, g1, g2, g3, fun k' b' l1 l2 l3 l4 => ?_⟩
          by_cases e : k' = n
          · subst e; exact g4 b' l2 l3 l4
          · exact Int.le_trans (h5 k' b' (by omega) l2 l3 l4) q3
        · refine ⟨k, b, by omega, h2, h3, h4, fun k' b' l1 l2 l3 l4 => ?_⟩
          by_cases e : k' = n
          · subst e; have := g4 b' l2 l3 l4; omega
          · exact h5 k' b' (by omega) l2 l3 l4
      · refine ⟨k, b, by omega, h2, h3, h4, fun k' b' l1 l2 l3 l4 => ?_⟩
        by_cases e : k' = n
        · subst e; exact absurd ⟨b', l2, l3, l4⟩ q2
        · exact h5 k' b' (by omega) l2 l3 l4
    · obtain ⟨k, b, h1, h2, h3, h4⟩ := h
      have e : k = n := by
        by_cases e : k = n
        · exact e
        · exact absurd ⟨k, b, by omega, h2, h3, h4⟩ q1
      subst e
      obtain ⟨c, g1, g2, g3, g4⟩ := inner k NB ⟨b, h2, h3, h4⟩
      refine ⟨k, c, h1, g1, g2, g3, fun k' b' l1 l2 l3 l4 => ?_⟩
      by_cases e : k' = k
      · subst e; exact g4 b' l2 l3 l4
      · exact absurd ⟨k', b', by omega, l2, l3, l4⟩ q1
theorem start_ge {S d : Int → Int} {s : Int} {NB n : Nat} {r : Int} (h : mxS (fun x => cnK S d s x NB n) S d s NB n r) (x : Int) : cnK S d s x NB n ≤ r := by
  by_cases q : ∃ k b : Nat, k < n ∧ b < NB ∧ bit (S k) b ∧ (k : Int) * s - d b ≤ x
  · obtain ⟨k, b, h1, h2, h3, h4, h5⟩ := latest_ex n q
    have g : cnK S d s x NB n ≤ cnK S d s (k * s - d b) NB n := cnK_le n (fun k' b' l1 l2 l3 l4 l5 => ⟨h5 k' b' l1 l2 l3 l4, by omega⟩)
    exact Int.le_trans g (h.2.2 k b h1 h2 h3)
  · rw [cnK_0 n (fun k b hk hb hbit q1 => q ⟨k, b, hk, hb, hbit, q1.1⟩)]
    exact h.2.1
/-- the greatest at the ends is the greatest at the starts -/
theorem mx_eq {S d : Int → Int} {s : Int} {NB n : Nat} (hs : 1 ≤ s) {r q : Int} (h : mxE (fun x => cnK S d s x NB n) s n r) (h2 : mxS (fun x => cnK S d s x NB n) S d s NB n q) : r = q := by
  have a1 : r ≤ q := by
    rcases h.1 with e | ⟨k, -, e⟩
    · rw [e]; exact h2.2.1
    · rw [e]; exact start_ge h2 _
  have a2 : q ≤ r := by
    rcases h2.1 with e | ⟨k, b, -, -, -, e⟩
    · rw [e]; exact h.2.1
    · rw [e]; exact end_ge hs h _
  omega
/-- how many bells of a set are in a step, counted bell by bell -/
noncomputable def pcS (x : Nat) : Nat → Int
  | 0 => 0
  | b + 1 => pcS x b + pick (x.testBit b = true) 1 0
theorem pcn_pcS (x : Nat) : (pcn x : Int) = pcS x 12 := by
  have key : ∀ c : Nat, (((List.range c).filter (fun b => x.testBit b)).length : Int) = pcS x c := by
    intro c
    induction c with
    | zero => rfl
    | succ c ih =>
      rw [List.range_succ, List.filter_append, List.length_append]
      show ((_ + _ : Nat) : Int) = pcS x c + _
      rw [← ih]
      by_cases h : x.testBit c = true
      · rw [pick_pos h]; simp [h]
      · rw [pick_neg h]; simp [h]
  exact key 12
/-- the set of the bells that move long enough before, in the step j -/
theorem pc_cnJ {S d : Int → Int} {s x j mk : Int} {NB : Nat} (hNB : NB ≤ 12) (hmk : ∀ b : Int, 0 ≤ b → b < 12 → (bit mk b ↔ b < NB ∧ (j * s - d b ≤ x ∧ x < j * s))) : (pcn ((S j).toNat &&& mk.toNat) : Int) = cnJ S d s x j NB := by
  rw [pcn_pcS]
  have e : ∀ b : Nat, b < 12 → (((S j).toNat &&& mk.toNat).testBit b = true ↔ bit (S j) b ∧ b < NB ∧ (j * s - d b ≤ x ∧ x < j * s)) := by
    intro b hb
    have h1 := hmk b (by omega) (by omega)
    have h2 := bit_and (x := S j) (y := mk) (b := (b : Int))
    unfold bit at h2 h1 ⊢
    rw [Int.toNat_natCast, Int.toNat_natCast] at h2
    rw [h2, Int.toNat_natCast]
    rw [Int.toNat_natCast] at h1
    rw [h1]
    simp only [Int.ofNat_lt]
  have key : ∀ c : Nat, c ≤ 12 → pcS ((S j).toNat &&& mk.toNat) c = cnJ S d s x j (min c NB) := by
    intro c
    induction c with
    | zero => intro _; rw [Nat.zero_min]; rfl
    | succ c ih =>
      intro hc
      show pcS _ c + pick _ 1 0 = _
      rw [ih (by omega)]
      by_cases q : c < NB
      · rw [show min (c + 1) NB = min c NB + 1 by omega, show min c NB = c by omega]
        show _ = cnJ S d s x j c + pick _ 1 0
        congr 2
        rw [e c (by omega)]
        exact propext ⟨fun h => ⟨h.1, h.2.2⟩, fun h => ⟨h.1, q, h.2⟩⟩
      · rw [pick_neg (fun h => q ((e c (by omega)).mp h).2.1), show min (c + 1) NB = min c NB by omega]
        exact Int.add_zero _
  have := key 12 (by omega)
  rw [this, show min 12 NB = NB by omega]
