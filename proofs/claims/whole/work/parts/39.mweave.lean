-- part 39: the model: weaves, weave, play (printed by wip/whole/gen/p39.py)
noncomputable def okM (mi : aM) (w s T : Int) : Int := (plL (eM mi) (dM mi) (outL (fun k => mi 72 (100 * w + k)) (mi 58 6).toNat T s (mi 73 w).toNat 0) (mL mi)).1
theorem outM_fr {mi m : aM} (h : frM mi m) (w T s : Int) : outL (fun k => m 72 (100 * w + k)) (m 58 6).toNat T s (m 73 w).toNat 0 = outL (fun k => mi 72 (100 * w + k)) (mi 58 6).toNat T s (mi 73 w).toNat 0 := by
  rw [h 58 6 (by omega) (by omega), h 73 w (by omega) (by omega)]
  congr 1
  funext k
  exact h _ _ (by omega) (by omega)
theorem dM_fr {mi m : aM} (h : frM mi m) : dM m = dM mi := by
  funext b
  exact h _ _ (by omega) (by omega)
theorem pM_fr {mi m : aM} (h : frM mi m) (hp : pM mi) : pM m := by
  intro w w0 w1
  obtain ⟨a, b⟩ := hp w w0 w1
  refine ⟨by rw [h 73 w (by omega) (by omega)]; exact a, fun k k0 k1 => ?_⟩
  rw [h 73 w (by omega) (by omega)] at k1
  rw [h 72 _ (by omega) (by omega)]
  exact b k k0 k1
theorem frM_tr {a b c : aM} (h : frM a b) (h2 : frM b c) : frM a c := fun x j p q => (h2 x j p q).trans (h x j p q)
theorem plM_rng {mi : aM} : ∀ (q : List (Int × Int)) (L : List Str), -8 ≤ (plL (eM mi) (dM mi) q L).1 ∧ (plL (eM mi) (dM mi) q L).1 ≤ 0
  | [], _ => by show -8 ≤ (0 : Int) ∧ (0 : Int) ≤ 0; omega
  | q :: r, L => by
    by_cases h0 : eM mi L q.1 q.2 = 0
    · rw [plL_ok h0]; exact plM_rng r _
    · rw [plL_no h0]; exact eM_rng _ _ _ _
theorem l_mweave {mr : aR} (hR : Rok mr) {mi : aM} {w T s W : Int} (hB : mB mi) (ho : mOk mi) (hpl : 1 ≤ mi 58 7 ∧ mi 58 7 ≤ 12) (hp : pM mi) (hw : 0 ≤ w ∧ w < 5) (hT : 0 ≤ T ∧ T ≤ 100000) (hs : 1 ≤ s ∧ s ≤ 200) (hW : 0 ≤ W ∧ W ≤ 500) : ∀ (n : Nat) (m : aM) (z : Int), mOk m → frM mi m → mL m = mL mi → (∀ v : Int, 0 ≤ v → v < z → okM mi w s (T + v) ≠ 0) → (0 ≤ z ∧ z ≤ W + 1) → W + 1 - z < n → AWm RX7 cX7_weaves 6 4 (Pi mr (fun r m => mOk m ∧ frM mi m ∧ ((r = -1 ∧ (∀ v : Int, 0 ≤ v → v ≤ W → okM mi w s (T + v) ≠ 0) ∧ mL m = mL mi) ∨ ((0 ≤ r ∧ r ≤ W) ∧ okM mi w s (T + r) = 0 ∧ (∀ v : Int, 0 ≤ v → v < r → okM mi w s (T + v) ≠ 0) ∧ ((plL (eM mi) (dM mi) (outL (fun k => mi 72 (100 * w + k)) (mi 58 6).toNat (T + r) s (mi 73 w).toNat 0) (mL mi)).2).Perm (mL m))))) 3 [(0, .ref 58), (1, iI w), (2, iI T), (3, iI s), (4, iI W), (5, iI z)] [] m mr := by
  intro n
  induction n with
  | zero => intro m z hom hfr hml hno h2 h3; omega
  | succ n ih =>
    intro m z hom hfr hml hno h2 h3
    refine aw_iload (i := 5) (q := 5) dX7_weaves_3 rfl ?_
    refine aw_iload (i := 4) (q := 4) dX7_weaves_5 rfl ?_
    refine aw_icmp_gt (tgt := 32) dX7_weaves_7 (by decide) (by first | assumption | omega) (by first | assumption | omega) (fun c7 => ?_) (fun c7 => ?_)
    · refine aw_iconst dX7_weaves_32 ?_
      exact aw_iret ⟨_, rfl, rfl, rfl, hom, hfr, Or.inl ⟨rfl, fun v v0 v1 => hno v v0 (by omega), hml⟩⟩ (Nat.le_refl _) (Nat.le_refl _) dX7_weaves_33
    · refine aw_aload_n (i := 0) (q := 0) dX7_weaves_10 rfl rfl ?_
      refine aw_iload_n (i := 1) (q := 1) dX7_weaves_11 rfl rfl ?_
      refine aw_iload_n (i := 2) (q := 2) dX7_weaves_12 rfl rfl ?_
      refine aw_iload (i := 5) (q := 5) dX7_weaves_13 rfl ?_
      refine aw_iadd dX7_weaves_15 ?_
      refine aw_iload_n (i := 3) (q := 3) dX7_weaves_16 rfl rfl ?_
      refine aw_cVi (As := [iI w, iI (T + z), iI s]) (st := []) clX7_260 (s_X7_plays (mi := m) (w := w) (T := T + z) (s := s) hR (mB_fr hfr hB) hom (by rw [hfr 58 7 (by omega) (by omega)]; exact hpl) (pM_fr hfr hp) hw (by omega) hs) SH_58 rfl (by decide) rfl rfl (Nat.le_of_ble_eq_true rfl) (by decide) (by decide) (Nat.le_refl _) (Nat.le_refl _) dX7_weaves_17 (fun v17 m1 hv17 => ?_)
      obtain ⟨h1o, h1f, h1r⟩ := hv17
      rw [outM_fr hfr, eM_fr hfr, dM_fr hfr, hml] at h1r
      have hf1 := frM_tr hfr h1f
      have hpr : -8 ≤ okM mi w s (T + z) ∧ okM mi w s (T + z) ≤ 0 := plM_rng _ _
      have h1r2 : (okM mi w s (T + z) ≠ 0 ∧ v17 = okM mi w s (T + z) ∧ mL m1 = mL mi) ∨ (okM mi w s (T + z) = 0 ∧ v17 = ((outL (fun k => mi 72 (100 * w + k)) (mi 58 6).toNat (T + z) s (mi 73 w).toNat 0).length : Int) ∧ ((plL (eM mi) (dM mi) (outL (fun k => mi 72 (100 * w + k)) (mi 58 6).toNat (T + z) s (mi 73 w).toNat 0) (mL mi)).2).Perm (mL m1)) := h1r
      have hle9 := outL_1200 (fun k => mi 72 (100 * w + k)) (T + z) s (NB := (mi 58 6).toNat) (c := (mi 73 w).toNat) 0 (by have := hB.1; omega) (by have := (hp w hw.1 hw.2).1; omega)
      have hv17r : -8 ≤ v17 ∧ v17 ≤ 1200 := by rcases h1r2 with q | q; (have a2 := q.2.1; omega); (have a2 := q.2.1; omega)
      refine aw_if_lt (tgt := 26) dX7_weaves_20 (by decide) (by first | assumption | omega) (fun c20 => ?_) (fun c20 => ?_)
      · refine aw_iinc (i := 5) (q := 5) (x := z) (lv' := [(0, .ref 58), (1, iI w), (2, iI T), (3, iI s), (4, iI W), (5, iI (z + 1))]) [1, 2, 3, 4, 5, 0] dX7_weaves_26 rfl (by decide) rfl ?_
        refine aw_goto (tgt := 3) dX7_weaves_29 (by decide) ?_
        have hbad : okM mi w s (T + z) ≠ 0 ∧ mL m1 = mL mi := by rcases h1r2 with q | q; (exact ⟨q.1, q.2.2⟩); (have a2 := q.2.1; omega)
        exact ih _ (z + 1) h1o hf1 hbad.2 (fun v v0 v1 => by by_cases e9 : v = z; (rw [e9]; exact hbad.1); (exact hno v v0 (by omega))) (by omega) (by omega)
      · refine aw_iload (i := 5) (q := 5) dX7_weaves_23 rfl ?_
        exact aw_iret ⟨_, rfl, rfl, rfl, h1o, hf1, Or.inr ⟨by omega, by rcases h1r2 with q | q; (have a1 := q.1; have a2 := q.2.1; omega); (exact q.1), hno, by rcases h1r2 with q | q; (have a1 := q.1; have a2 := q.2.1; omega); (exact q.2.2)⟩⟩ (Nat.le_refl _) (Nat.le_refl _) dX7_weaves_25
theorem s_X7_weaves {mr : aR} (hR : Rok mr) {mi : aM} {w T s W : Int} (hB : mB mi) (ho : mOk mi) (hpl : 1 ≤ mi 58 7 ∧ mi 58 7 ≤ 12) (hp : pM mi) (hw : 0 ≤ w ∧ w < 5) (hT : 0 ≤ T ∧ T ≤ 100000) (hs : 1 ≤ s ∧ s ≤ 200) (hW : 0 ≤ W ∧ W ≤ 500) : SPg yX7_weaves cX7_weaves 6 (some .int) 4 [.ref 58, iI w, iI T, iI s, iI W] mi mr (Pi mr (fun r m => mOk m ∧ frM mi m ∧ ((r = -1 ∧ (∀ v : Int, 0 ≤ v → v ≤ W → okM mi w s (T + v) ≠ 0) ∧ mL m = mL mi) ∨ ((0 ≤ r ∧ r ≤ W) ∧ okM mi w s (T + r) = 0 ∧ (∀ v : Int, 0 ≤ v → v < r → okM mi w s (T + v) ≠ 0) ∧ ((plL (eM mi) (dM mi) (outL (fun k => mi 72 (100 * w + k)) (mi 58 6).toNat (T + r) s (mi 73 w).toNat 0) (mL mi)).2).Perm (mL m))))) := by
  refine SPg.int rfl (by decide +kernel) (Nat.le_of_ble_eq_true rfl) ?_
  show AWm RX7 cX7_weaves 6 4 _ 0 [(0, .ref 58), (1, iI w), (2, iI T), (3, iI s), (4, iI W)] [] mi mr
  refine aw_iconst dX7_weaves_0 ?_
  refine aw_istore (i := 5) (lv' := [(0, .ref 58), (1, iI w), (2, iI T), (3, iI s), (4, iI W), (5, iI 0)]) [1, 2, 3, 4, 5, 0] dX7_weaves_1 (by decide) rfl ?_
  exact l_mweave hR hB ho hpl hp hw hT hs hW ((W + 1).toNat + 1) mi 0 ho (fun _ _ _ _ => rfl) rfl (fun v v0 v1 => by omega) (by omega) (by omega)
