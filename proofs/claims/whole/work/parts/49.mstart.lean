-- part 49: the model: laysStarted (printed by wip/whole/gen/p49.py)
/-- the force of a bell of the model if its swinging starts now -/
def stM (mi : aM) (b g : Int) (k : Nat) : Int := fK (mi 61 b) 1 g (mi 62 b) (1, 0, 1, mi 58 9) (mi 58 9) k
theorem tkS_yes {mo ta hf t sw a sd lt : Int} (h : sw ≠ 0) (e : t = lt + hf) : tkS mo ta hf t (sw, a, sd, lt) = (if trn a mo ta = 0 ∧ mo = 0 then 0 else sw, trn a mo ta, -sd, lt + hf) := by
  unfold tkS
  exact if_pos ⟨h, e⟩
theorem tkS_no {mo ta hf t sw a sd lt : Int} (h : sw = 0 ∨ t ≠ lt + hf) : tkS mo ta hf t (sw, a, sd, lt) = (sw, a, sd, lt) := by
  unfold tkS
  refine if_neg (fun q => ?_)
  rcases h with h | h
  · exact q.1 h
  · exact h q.2
theorem fut_s (mo ta hf : Int) (q : bQ) (t0 : Int) (k : Nat) : fut mo ta hf q t0 (k + 1) = tkS mo ta hf (t0 + k) (fut mo ta hf q t0 k) := rfl
theorem fF_v {w hf sw a sd lt t : Int} (h : sw ≠ 0) : fF w hf (sw, a, sd, lt) t = frc sd w a hf (t - lt) := by
  unfold fF
  exact if_neg h
theorem l_lays {mr : aR} (hR : Rok mr) {mi : aM} {b g : Int} (hb : 0 ≤ b ∧ b < 12) (hw : 1 ≤ mi 61 b ∧ mi 61 b ≤ 99) (hh : 10 ≤ mi 62 b ∧ mi 62 b ≤ 60) (hg : 1 ≤ g ∧ g ≤ 1000) (hnw : 0 ≤ mi 58 9 ∧ mi 58 9 ≤ 100000) : ∀ (n : Nat) (m : aM) (a sd t6 z lt : Int) (i : Nat), fut 1 g (mi 62 b) (1, 0, 1, mi 58 9) (mi 58 9) i = (1, a, sd, lt) → t6 = lt + mi 62 b - mi 58 9 → (lt ≤ mi 58 9 + z ∧ mi 58 9 + z ≤ lt + mi 62 b) → (0 ≤ a ∧ a ≤ 1000) → (sd = 1 ∨ sd = -1) → (∀ (x : Nat) (j : Int), x ≠ 94 → m x j = mi x j) → (∀ j : Int, 0 ≤ j → j < z → m 94 j = stM mi b g j.toNat) → z = (i : Int) → (0 ≤ z ∧ z ≤ 601) → 601 - z < n → AWm RX7 cX7_laysStarted 7 2 (Pv mr (fun m => (∀ (x : Nat) (j : Int), x ≠ 94 → m x j = mi x j) ∧ ∀ j : Int, 0 ≤ j → j ≤ 600 → m 94 j = stM mi b g j.toNat)) 16 [(0, .ref 58), (1, iI b), (2, iI g), (3, iI a), (4, iI sd), (5, iI t6), (6, iI z)] [] m mr := by
  intro n
  induction n with
  | zero => intro m a sd t6 z lt i hft ht6 hwin ha hsd hfr hdn hz h2 h3; omega
  | succ n ih =>
    intro m a sd t6 z lt i hft ht6 hwin ha hsd hfr hdn hz h2 h3
    have f61 : m 61 b = mi 61 b := hfr 61 b (by decide)
    have f62 : m 62 b = mi 62 b := hfr 62 b (by decide)
    refine aw_iload (i := 6) (q := 6) dX7_laysStarted_16 rfl ?_
    refine aw_sipush (x := 600) dX7_laysStarted_18 rfl ?_
    refine aw_icmp_gt (tgt := 87) dX7_laysStarted_21 (by decide) (by first | assumption | omega) (by decide) (fun c21 => ?_) (fun c21 => ?_)
    · exact aw_vret ⟨rfl, rfl, rfl, (⟨hfr, fun j j0 j1 => hdn j j0 (by omega)⟩)⟩ (Nat.le_refl _) (Nat.le_refl _) dX7_laysStarted_87
    · refine aw_iload (i := 6) (q := 6) dX7_laysStarted_24 rfl ?_
      refine aw_iload (i := 5) (q := 5) dX7_laysStarted_26 rfl ?_
      refine aw_icmp_ne (tgt := 54) dX7_laysStarted_28 (by decide) (by first | assumption | omega) (by first | assumption | omega) (fun c28 => ?_) (fun c28 => ?_)
      · refine aw_aload_n (i := 0) (q := 0) dX7_laysStarted_54 rfl rfl ?_
        refine aw_getR (r := 94) flX7_123 SH_58 (by decide) rfl (rk_58_52 hR) dX7_laysStarted_55 ?_
        refine aw_iload (i := 6) (q := 6) dX7_laysStarted_58 rfl ?_
        refine aw_aload_n (i := 0) (q := 0) dX7_laysStarted_60 rfl rfl ?_
        refine aw_iload_n (i := 1) (q := 1) dX7_laysStarted_61 rfl rfl ?_
        refine aw_iload (i := 4) (q := 4) dX7_laysStarted_62 rfl ?_
        refine aw_iload_n (i := 3) (q := 3) dX7_laysStarted_64 rfl rfl ?_
        refine aw_iload (i := 6) (q := 6) dX7_laysStarted_65 rfl ?_
        refine aw_iload (i := 5) (q := 5) dX7_laysStarted_67 rfl ?_
        refine aw_isub dX7_laysStarted_69 ?_
        refine aw_aload_n (i := 0) (q := 0) dX7_laysStarted_70 rfl rfl ?_
        refine aw_getR (r := 62) flX7_23 SH_58 (by decide) rfl (rk_58_4 hR) dX7_laysStarted_71 ?_
        refine aw_iload_n (i := 1) (q := 1) dX7_laysStarted_74 rfl rfl ?_
        refine aw_ialdv (x := m 62 b) SH_62 (by decide) ⟨by omega, by omega⟩ rfl dX7_laysStarted_75 (fun r75 => ?_)
        refine aw_iadd dX7_laysStarted_76 ?_
        refine aw_cVp (As := [iI b, iI sd, iI a, iI ((z - t6) + (m 62 b))]) (st := [iI z, .ref 94]) clX7_313 (s_X7_forceBy (mi := m) hR hb (by omega) (by omega) (by omega) (by omega) (by omega)) SH_58 rfl (by decide) rfl rfl (Nat.le_of_ble_eq_true rfl) (by decide) (by decide) (Nat.le_refl _) (Nat.le_refl _) dX7_laysStarted_77 (fun v77 hv77 => ?_)
        obtain ⟨hv77, hv77r⟩ := hv77
        rw [f61, f62] at hv77
        refine aw_iast SH_94 (by decide) ⟨by omega, by omega⟩ (by first | assumption | omega) dX7_laysStarted_80 ?_
        refine aw_iinc (i := 6) (q := 6) (x := z) (lv' := [(0, .ref 58), (1, iI b), (2, iI g), (3, iI a), (4, iI sd), (5, iI t6), (6, iI (z + 1))]) [1, 2, 3, 4, 5, 6, 0] dX7_laysStarted_81 rfl (by decide) rfl ?_
        refine aw_goto (tgt := 16) dX7_laysStarted_84 (by decide) ?_
        refine aw_sub (lv' := [(0, .ref 58), (1, iI b), (2, iI g), (3, iI a), (4, iI sd), (5, iI t6), (6, iI (z + 1))]) [0, 1, 2, 3, 4, 5, 6] rfl ?_
        have hfs : fut 1 g (mi 62 b) (1, 0, 1, mi 58 9) (mi 58 9) (i + 1) = (1, a, sd, lt) := by rw [fut_s, hft, tkS_no (Or.inr (by omega))]
        have hvf : v77 = stM mi b g i := by
          unfold stM fK
          rw [hfs, fF_v (by decide), hv77]
          congr 1
          omega
        exact ih _ (a) (sd) (t6) (z + 1) lt (i + 1) hfs (by omega) (by omega) (by omega) (by omega) (fun x j hx => by rw [aup_a hx]; exact hfr x j hx) (fun j j0 j1 => by by_cases e9 : j = z; (subst e9; rw [aup_eq, hvf, show j.toNat = i by omega]); (rw [aup_k e9]; exact hdn j j0 (by omega))) (by omega) (by omega) (by omega)
      · refine aw_iload (i := 4) (q := 4) dX7_laysStarted_31 rfl ?_
        refine aw_ineg dX7_laysStarted_33 ?_
        refine aw_istore (i := 4) (lv' := [(0, .ref 58), (1, iI b), (2, iI g), (3, iI a), (4, iI (-sd)), (5, iI t6), (6, iI z)]) [1, 2, 3, 4, 0, 5, 6] dX7_laysStarted_34 (by decide) rfl ?_
        refine aw_iload_n (i := 3) (q := 3) dX7_laysStarted_36 rfl rfl ?_
        refine aw_iconst dX7_laysStarted_37 ?_
        refine aw_iload_n (i := 2) (q := 2) dX7_laysStarted_38 rfl rfl ?_
        refine aw_cSp (As := [iI a, iI 1, iI g]) (st := []) clX7_294 (s_X7_turned hR (by omega) (Or.inr rfl) (by omega)) rfl rfl (Nat.le_of_ble_eq_true rfl) (by decide) (by decide) (Nat.le_refl _) (Nat.le_refl _) dX7_laysStarted_39 (fun v39 hv39 => ?_)
        have htr := trn_rng (motor := 1) (amp := a) (aim := g) ha (by omega)
        rw [← hv39] at htr
        refine aw_istore_n (i := 3) (lv' := [(0, .ref 58), (1, iI b), (2, iI g), (3, iI v39), (4, iI (-sd)), (5, iI t6), (6, iI z)]) [1, 2, 3, 0, 4, 5, 6] dX7_laysStarted_42 rfl (by decide) rfl ?_
        refine aw_iload (i := 5) (q := 5) dX7_laysStarted_43 rfl ?_
        refine aw_aload_n (i := 0) (q := 0) dX7_laysStarted_45 rfl rfl ?_
        refine aw_getR (r := 62) flX7_23 SH_58 (by decide) rfl (rk_58_4 hR) dX7_laysStarted_46 ?_
        refine aw_iload_n (i := 1) (q := 1) dX7_laysStarted_49 rfl rfl ?_
        refine aw_ialdv (x := m 62 b) SH_62 (by decide) ⟨by omega, by omega⟩ rfl dX7_laysStarted_50 (fun r50 => ?_)
        refine aw_iadd dX7_laysStarted_51 ?_
        refine aw_istore (i := 5) (lv' := [(0, .ref 58), (1, iI b), (2, iI g), (3, iI v39), (4, iI (-sd)), (5, iI (t6 + (m 62 b))), (6, iI z)]) [1, 2, 3, 4, 5, 0, 6] dX7_laysStarted_52 (by decide) rfl ?_
        refine aw_aload_n (i := 0) (q := 0) dX7_laysStarted_54 rfl rfl ?_
        refine aw_getR (r := 94) flX7_123 SH_58 (by decide) rfl (rk_58_52 hR) dX7_laysStarted_55 ?_
        refine aw_iload (i := 6) (q := 6) dX7_laysStarted_58 rfl ?_
        refine aw_aload_n (i := 0) (q := 0) dX7_laysStarted_60 rfl rfl ?_
        refine aw_iload_n (i := 1) (q := 1) dX7_laysStarted_61 rfl rfl ?_
        refine aw_iload (i := 4) (q := 4) dX7_laysStarted_62 rfl ?_
        refine aw_iload_n (i := 3) (q := 3) dX7_laysStarted_64 rfl rfl ?_
        refine aw_iload (i := 6) (q := 6) dX7_laysStarted_65 rfl ?_
        refine aw_iload (i := 5) (q := 5) dX7_laysStarted_67 rfl ?_
        refine aw_isub dX7_laysStarted_69 ?_
        refine aw_aload_n (i := 0) (q := 0) dX7_laysStarted_70 rfl rfl ?_
        refine aw_getR (r := 62) flX7_23 SH_58 (by decide) rfl (rk_58_4 hR) dX7_laysStarted_71 ?_
        refine aw_iload_n (i := 1) (q := 1) dX7_laysStarted_74 rfl rfl ?_
        refine aw_ialdv (x := m 62 b) SH_62 (by decide) ⟨by omega, by omega⟩ rfl dX7_laysStarted_75 (fun r75 => ?_)
        refine aw_iadd dX7_laysStarted_76 ?_
        refine aw_cVp (As := [iI b, iI (-sd), iI v39, iI ((z - (t6 + (m 62 b))) + (m 62 b))]) (st := [iI z, .ref 94]) clX7_313 (s_X7_forceBy (mi := m) hR hb (by omega) (by omega) (by omega) (by omega) (by omega)) SH_58 rfl (by decide) rfl rfl (Nat.le_of_ble_eq_true rfl) (by decide) (by decide) (Nat.le_refl _) (Nat.le_refl _) dX7_laysStarted_77 (fun v77 hv77 => ?_)
        obtain ⟨hv77, hv77r⟩ := hv77
        rw [f61, f62] at hv77
        refine aw_iast SH_94 (by decide) ⟨by omega, by omega⟩ (by first | assumption | omega) dX7_laysStarted_80 ?_
        refine aw_iinc (i := 6) (q := 6) (x := z) (lv' := [(0, .ref 58), (1, iI b), (2, iI g), (3, iI v39), (4, iI (-sd)), (5, iI (t6 + (m 62 b))), (6, iI (z + 1))]) [1, 2, 3, 4, 5, 6, 0] dX7_laysStarted_81 rfl (by decide) rfl ?_
        refine aw_goto (tgt := 16) dX7_laysStarted_84 (by decide) ?_
        refine aw_sub (lv' := [(0, .ref 58), (1, iI b), (2, iI g), (3, iI v39), (4, iI (-sd)), (5, iI (t6 + (m 62 b))), (6, iI (z + 1))]) [0, 1, 2, 3, 4, 5, 6] rfl ?_
        have hfs : fut 1 g (mi 62 b) (1, 0, 1, mi 58 9) (mi 58 9) (i + 1) = (1, v39, -sd, lt + mi 62 b) := by rw [fut_s, hft, tkS_yes (by decide) (by omega), if_neg (by omega), ← hv39]
        have hvf : v77 = stM mi b g i := by
          unfold stM fK
          rw [hfs, fF_v (by decide), hv77]
          congr 1
          omega
        exact ih _ (v39) (-sd) (t6 + (m 62 b)) (z + 1) (lt + mi 62 b) (i + 1) hfs (by omega) (by omega) (by omega) (by omega) (fun x j hx => by rw [aup_a hx]; exact hfr x j hx) (fun j j0 j1 => by by_cases e9 : j = z; (subst e9; rw [aup_eq, hvf, show j.toNat = i by omega]); (rw [aup_k e9]; exact hdn j j0 (by omega))) (by omega) (by omega) (by omega)
theorem s_X7_laysStarted {mr : aR} (hR : Rok mr) {mi : aM} {b g : Int} (hb : 0 ≤ b ∧ b < 12) (hw : 1 ≤ mi 61 b ∧ mi 61 b ≤ 99) (hh : 10 ≤ mi 62 b ∧ mi 62 b ≤ 60) (hg : 1 ≤ g ∧ g ≤ 1000) (hnw : 0 ≤ mi 58 9 ∧ mi 58 9 ≤ 100000) : SPg yX7_laysStarted cX7_laysStarted 7 none 2 [.ref 58, iI b, iI g] mi mr (Pv mr (fun m => (∀ (x : Nat) (j : Int), x ≠ 94 → m x j = mi x j) ∧ ∀ j : Int, 0 ≤ j → j ≤ 600 → m 94 j = stM mi b g j.toNat)) := by
  refine SPg.void rfl (by decide +kernel) (Nat.le_of_ble_eq_true rfl) ?_
  show AWm RX7 cX7_laysStarted 7 2 _ 0 [(0, .ref 58), (1, iI b), (2, iI g)] [] mi mr
  refine aw_iconst dX7_laysStarted_0 ?_
  refine aw_istore_n (i := 3) (lv' := [(0, .ref 58), (1, iI b), (2, iI g), (3, iI 0)]) [1, 2, 3, 0] dX7_laysStarted_1 rfl (by decide) rfl ?_
  refine aw_iconst dX7_laysStarted_2 ?_
  refine aw_istore (i := 4) (lv' := [(0, .ref 58), (1, iI b), (2, iI g), (3, iI 0), (4, iI 1)]) [1, 2, 3, 4, 0] dX7_laysStarted_3 (by decide) rfl ?_
  refine aw_aload_n (i := 0) (q := 0) dX7_laysStarted_5 rfl rfl ?_
  refine aw_getR (r := 62) flX7_23 SH_58 (by decide) rfl (rk_58_4 hR) dX7_laysStarted_6 ?_
  refine aw_iload_n (i := 1) (q := 1) dX7_laysStarted_9 rfl rfl ?_
  refine aw_ialdv (x := mi 62 b) SH_62 (by decide) ⟨by omega, by omega⟩ rfl dX7_laysStarted_10 (fun r10 => ?_)
  refine aw_istore (i := 5) (lv' := [(0, .ref 58), (1, iI b), (2, iI g), (3, iI 0), (4, iI 1), (5, iI (mi 62 b))]) [1, 2, 3, 4, 5, 0] dX7_laysStarted_11 (by decide) rfl ?_
  refine aw_iconst dX7_laysStarted_13 ?_
  refine aw_istore (i := 6) (lv' := [(0, .ref 58), (1, iI b), (2, iI g), (3, iI 0), (4, iI 1), (5, iI (mi 62 b)), (6, iI 0)]) [1, 2, 3, 4, 5, 6, 0] dX7_laysStarted_14 (by decide) rfl ?_
  exact l_lays hR hb hw hh hg hnw 602 mi 0 1 (mi 62 b) 0 (mi 58 9) 0 rfl (by omega) (by omega) (by omega) (Or.inl rfl) (fun _ _ _ => rfl) (fun j j0 j1 => by omega) rfl (by omega) (by omega)
