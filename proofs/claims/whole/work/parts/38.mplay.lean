-- part 38: the model: plays, weaves (printed by wip/whole/gen/p38.py)
/-- the model's decision and its delays -/
noncomputable def eM (mi : aM) : List Str → Int → Int → Int := fun L b t => exam L (mi 58 9) (mi 58 7) (mi 63 b) (mi 86 b) (mi 59 b) (mi 60 b) b t
def dM (mi : aM) : Int → Int := fun b => mi 59 b
theorem eM_perm (mi : aM) : ∀ (L M : List Str), L.Perm M → ∀ b t, eM mi L b t = eM mi M b t := fun _ _ h _ _ => exam_perm h _ _ _ _ _ _ _ _
theorem eM_rng (mi : aM) (L : List Str) (b t : Int) : -8 ≤ eM mi L b t ∧ eM mi L b t ≤ 0 := exam_rng _ _ _ _ _ _ _ _ _
/-- all but strokes and the changes stays -/
def frM (mi m : aM) : Prop := ∀ (x : Nat) (j : Int), (x < 67 ∨ 70 < x) → (x ≠ 58 ∨ j ≠ 18) → m x j = mi x j
theorem eM_fr {mi m : aM} (h : frM mi m) : eM m = eM mi := by
  funext L b t
  unfold eM
  rw [h 58 9 (by omega) (by omega), h 58 7 (by omega) (by omega), h 63 b (by omega) (by omega), h 86 b (by omega) (by omega), h 59 b (by omega) (by omega), h 60 b (by omega) (by omega)]
theorem mB_fr {mi m : aM} (h : frM mi m) (hb : mB mi) : mB m := by
  have g : ∀ (x : Nat) (j : Int), 59 ≤ x ∧ x < 67 ∨ 70 < x → m x j = mi x j := fun x j q => h x j (by omega) (by omega)
  obtain ⟨h1, h2, h3⟩ := hb
  refine ⟨by rw [h 58 6 (by omega) (by omega)]; exact h1, by rw [h 58 9 (by omega) (by omega)]; exact h2, fun i a b => ?_⟩
  rw [h 58 6 (by omega) (by omega)] at b
  rw [g 59 i (by omega), g 60 i (by omega), g 61 i (by omega), g 62 i (by omega), g 63 i (by omega), g 86 i (by omega), g 87 i (by omega), g 88 i (by omega)]
  exact h3 i a b
/-- the model's patterns -/
def pM (mi : aM) : Prop := ∀ w : Int, 0 ≤ w → w < 5 → (0 ≤ mi 73 w ∧ mi 73 w ≤ 100) ∧ ∀ k : Int, 0 ≤ k → k < mi 73 w → 0 ≤ mi 72 (100 * w + k) ∧ mi 72 (100 * w + k) < 4096
/-- within a play -/
def jI (mi m : aM) (all rest : List (Int × Int)) : Prop :=
  (plL (eM mi) (dM mi) all (mL mi)).1 = (plL (eM mi) (dM mi) rest (mL m)).1 ∧ ((plL (eM mi) (dM mi) all (mL mi)).2).Perm (plL (eM mi) (dM mi) rest (mL m)).2 ∧ m 58 18 + (rest.length : Int) = mi 58 18 + (all.length : Int) ∧ mOk m ∧ frM mi m ∧ (∀ i : Int, 0 ≤ i → i < mi 58 18 → m 67 i = mi 67 i ∧ m 68 i = mi 68 i ∧ m 69 i = mi 69 i) ∧ mi 58 18 ≤ m 58 18
theorem jI_refuse {mi m : aM} {all rest : List (Int × Int)} {b t : Int} (h : jI mi m all ((b, t) :: rest)) (h0 : eM mi (mL m) b t ≠ 0) : (plL (eM mi) (dM mi) all (mL mi)).1 = eM mi (mL m) b t := by
  rw [h.1, plL_no (by exact h0)]
theorem jI_70 {mi m m1 : aM} {all rest : List (Int × Int)} (h : jI mi m all rest) (hm : fr70 m m1) : jI mi m1 all rest := by
  obtain ⟨h1, h2, h3, h4, h5, h6, h7⟩ := h
  have e : mL m1 = mL m := mL_congr (fun j => ⟨hm _ _ (by decide), hm _ _ (by decide), hm _ _ (by decide)⟩) (hm _ _ (by decide))
  have e18 : m1 58 18 = m 58 18 := hm _ _ (by decide)
  refine ⟨by rw [e]; exact h1, by rw [e]; exact h2, by rw [e18]; exact h3, mOk_congr (fun j => ⟨hm _ _ (by decide), hm _ _ (by decide), hm _ _ (by decide)⟩) e18 h4, fun x j a b => by rw [hm x j (by omega)]; exact h5 x j a b, fun i a b => ?_, by rw [e18]; exact h7⟩
  rw [hm 67 i (by decide), hm 68 i (by decide), hm 69 i (by decide)]
  exact h6 i a b
theorem jI_step {mi m : aM} {all rest : List (Int × Int)} {b t : Int} (h : jI mi m all ((b, t) :: rest)) (h0 : eM mi (mL m) b t = 0) (hn : m 58 18 < 300) (hb : 0 ≤ b ∧ b < 12) (hd : 1 ≤ mi 59 b ∧ mi 59 b ≤ 50) (ht : 0 ≤ t ∧ t ≤ 150000) : jI mi (mAdd m b t) all rest := by
  obtain ⟨h1, h2, h3, h4, h5, h6, h7⟩ := h
  rw [plL_ok (by exact h0)] at h1 h2
  have e59 : m 59 b = mi 59 b := h5 _ _ (by omega) (by omega)
  have hp : (mL (mAdd m b t)).Perm ((b, t - dM mi b, t) :: mL m) := by
    have e := mL_Add h4 b t
    rw [e59] at e
    exact e
  have e := plL_perm (dl := dM mi) (eM_perm mi) rest _ _ hp
  refine ⟨by rw [e.1]; exact h1, h2.trans e.2.symm, ?_, mOk_Add h4 hn hb (by rw [e59]; exact hd) ht, fun x j a c => by rw [mAdd_o ⟨by omega, c⟩]; exact h5 x j a c, fun i a c => ?_, by rw [mAdd_n]; omega⟩
  · rw [mAdd_n]
    rw [List.length_cons] at h3
    omega
  · have k := h6 i a c
    unfold mAdd
    refine ⟨?_, ?_, ?_⟩
    · rw [aup_a (by decide), aup_a (by decide), aup_a (by decide), aup_k (by omega)]; exact k.1
    · rw [aup_a (by decide), aup_a (by decide), aup_k (by omega), aup_a (by decide)]; exact k.2.1
    · rw [aup_a (by decide), aup_k (by omega), aup_a (by decide), aup_a (by decide)]; exact k.2.2
theorem jI_back {mi m m1 : aM} {all rest : List (Int × Int)} (h : jI mi m all rest) (hm : m1 = aup m 58 18 (mi 58 18)) (ho : mOk mi) : mL m1 = mL mi ∧ mOk m1 ∧ frM mi m1 := by
  subst hm
  obtain ⟨-, -, -, h4, h5, h6, h7⟩ := h
  have e18 : aup m 58 18 (mi 58 18) 58 18 = mi 58 18 := aup_eq _ _ _ _
  have g : ∀ i : Int, 0 ≤ i → i < mi 58 18 → aup m 58 18 (mi 58 18) 67 i = mi 67 i ∧ aup m 58 18 (mi 58 18) 68 i = mi 68 i ∧ aup m 58 18 (mi 58 18) 69 i = mi 69 i := fun i a b => by
    rw [aup_a (by decide), aup_a (by decide), aup_a (by decide)]
    exact h6 i a b
  refine ⟨?_, ⟨by rw [e18]; exact ho.1, fun i a b => ?_⟩, fun x j a b => ?_⟩
  · unfold mL
    rw [e18]
    have := ho.1
    exact lst_congr (fun i a b => by have k := g i a (by omega); unfold mS; rw [k.1, k.2.1, k.2.2])
  · rw [e18] at b
    have k := g i a b
    rw [k.1, k.2.1, k.2.2]
    exact ho.2 i a b
  · rcases b with b | b
    · rw [aup_a b]; exact h5 x j a (Or.inl b)
    · rw [aup_k b]; exact h5 x j a (Or.inr b)
theorem l_mplay2 {mr : aR} (hR : Rok mr) {mi : aM} {w T s : Int} (hB : mB mi) (ho : mOk mi) (hpl : 1 ≤ mi 58 7 ∧ mi 58 7 ≤ 12) (hp : pM mi) (hw : 0 ≤ w ∧ w < 5) (hT : 0 ≤ T ∧ T ≤ 100600) (hs : 1 ≤ s ∧ s ≤ 200) {z : Int} {i : Nat} (hz : z = (i : Int)) (hzr : 0 ≤ z ∧ z < mi 73 w) (kx : ∀ (m : aM), jI mi m (outL (fun k => mi 72 (100 * w + k)) (mi 58 6).toNat T s (mi 73 w).toNat 0) (outL (fun k => mi 72 (100 * w + k)) (mi 58 6).toNat T s ((mi 73 w).toNat - (i + 1)) (i + 1)) → AWm RX7 cX7_plays 8 3 (Pi mr (fun r m => mOk m ∧ frM mi m ∧ (((plL (eM mi) (dM mi) (outL (fun k => mi 72 (100 * w + k)) (mi 58 6).toNat T s (mi 73 w).toNat 0) (mL mi)).1 ≠ 0 ∧ r = (plL (eM mi) (dM mi) (outL (fun k => mi 72 (100 * w + k)) (mi 58 6).toNat T s (mi 73 w).toNat 0) (mL mi)).1 ∧ mL m = mL mi) ∨ ((plL (eM mi) (dM mi) (outL (fun k => mi 72 (100 * w + k)) (mi 58 6).toNat T s (mi 73 w).toNat 0) (mL mi)).1 = 0 ∧ r = ((outL (fun k => mi 72 (100 * w + k)) (mi 58 6).toNat T s (mi 73 w).toNat 0).length : Int) ∧ ((plL (eM mi) (dM mi) (outL (fun k => mi 72 (100 * w + k)) (mi 58 6).toNat T s (mi 73 w).toNat 0) (mL mi)).2).Perm (mL m))))) 9 [(0, .ref 58), (1, iI w), (2, iI T), (3, iI s), (4, iI (mi 58 18)), (5, iI (z + 1))] [] m mr) : ∀ (n : Nat) (m : aM) (y : Int) (j : Nat), jI mi m (outL (fun k => mi 72 (100 * w + k)) (mi 58 6).toNat T s (mi 73 w).toNat 0) (innL (mi 72 (100 * w + z)) (T + z * s) ((mi 58 6).toNat - j) j ++ outL (fun k => mi 72 (100 * w + k)) (mi 58 6).toNat T s ((mi 73 w).toNat - (i + 1)) (i + 1)) → y = (j : Int) → (0 ≤ y ∧ y ≤ mi 58 6) → mi 58 6 - y < n → AWm RX7 cX7_plays 8 3 (Pi mr (fun r m => mOk m ∧ frM mi m ∧ (((plL (eM mi) (dM mi) (outL (fun k => mi 72 (100 * w + k)) (mi 58 6).toNat T s (mi 73 w).toNat 0) (mL mi)).1 ≠ 0 ∧ r = (plL (eM mi) (dM mi) (outL (fun k => mi 72 (100 * w + k)) (mi 58 6).toNat T s (mi 73 w).toNat 0) (mL mi)).1 ∧ mL m = mL mi) ∨ ((plL (eM mi) (dM mi) (outL (fun k => mi 72 (100 * w + k)) (mi 58 6).toNat T s (mi 73 w).toNat 0) (mL mi)).1 = 0 ∧ r = ((outL (fun k => mi 72 (100 * w + k)) (mi 58 6).toNat T s (mi 73 w).toNat 0).length : Int) ∧ ((plL (eM mi) (dM mi) (outL (fun k => mi 72 (100 * w + k)) (mi 58 6).toNat T s (mi 73 w).toNat 0) (mL mi)).2).Perm (mL m))))) 23 [(0, .ref 58), (1, iI w), (2, iI T), (3, iI s), (4, iI (mi 58 18)), (5, iI z), (6, iI y)] [] m mr := by
  intro n
  induction n with
  | zero => intro m y j hI hyj h2 h3; omega
  | succ n ih =>
    intro m y j hI hyj h2 h3
    have hfr := hI.2.2.2.2.1
    have f6 : m 58 6 = mi 58 6 := hfr 58 6 (by omega) (by omega)
    have f73 : m 73 w = mi 73 w := hfr 73 w (by omega) (by omega)
    have hn := hB.1
    have hpw := (hp w hw.1 hw.2).1
    have hc1 := hI.2.2.2.1.1
    have hc0 := ho.1
    have hms := mul_lt (z := z) (s := s) (by omega) hs
    refine aw_iload (i := 6) (q := 6) dX7_plays_23 rfl ?_
    refine aw_aload_n (i := 0) (q := 0) dX7_plays_25 rfl rfl ?_
    refine aw_getIk (x := m 58 6) 6 flX7_132 SH_58 (by decide) rfl rfl rfl dX7_plays_26 (fun r26 => ?_)
    refine aw_icmp_ge (tgt := 102) dX7_plays_29 (by decide) (by first | assumption | omega) (by first | assumption | omega) (fun c29 => ?_) (fun c29 => ?_)
    · refine aw_sub (lv' := [(0, .ref 58), (1, iI w), (2, iI T), (3, iI s), (4, iI (mi 58 18)), (5, iI z)]) [0, 1, 2, 3, 4, 5] rfl ?_
      refine aw_iinc (i := 5) (q := 5) (x := z) (lv' := [(0, .ref 58), (1, iI w), (2, iI T), (3, iI s), (4, iI (mi 58 18)), (5, iI (z + 1))]) [1, 2, 3, 4, 5, 0] dX7_plays_102 rfl (by decide) rfl ?_
      refine aw_goto (tgt := 9) dX7_plays_105 (by decide) ?_
      refine kx _ ?_
      rw [show (mi 58 6).toNat - j = 0 by omega] at hI
      exact hI
    · have fst : m 72 (100 * w + z) = mi 72 (100 * w + z) := hfr _ _ (by omega) (by omega)
      have hst9 := (hp w hw.1 hw.2).2 z (by omega) (by omega)
      refine aw_aload_n (i := 0) (q := 0) dX7_plays_32 rfl rfl ?_
      refine aw_getR (r := 72) flX7_54 SH_58 (by decide) rfl (rk_58_20 hR) dX7_plays_33 ?_
      refine aw_bipush (x := 100) dX7_plays_36 rfl ?_
      refine aw_iload_n (i := 1) (q := 1) dX7_plays_38 rfl rfl ?_
      refine aw_imul dX7_plays_39 ?_
      refine aw_iload (i := 5) (q := 5) dX7_plays_40 rfl ?_
      refine aw_iadd dX7_plays_42 ?_
      refine aw_ialdv (x := m 72 ((100 * w) + z)) SH_72 (by decide) ⟨by omega, by omega⟩ rfl dX7_plays_43 (fun r43 => ?_)
      refine aw_iload (i := 6) (q := 6) dX7_plays_44 rfl ?_
      refine aw_ishr (z := (((m 72 ((100 * w) + z)).toNat / 2 ^ (y).toNat : Nat) : Int)) dX7_plays_46 (bt_shr (by omega) (by omega)) ?_
      refine aw_iconst dX7_plays_47 ?_
      obtain ⟨bw48, hbw48, hbt48⟩ := bit_w (m 72 ((100 * w) + z)) y
      refine aw_iand (z := bw48) dX7_plays_48 (by rw [hbw48]; exact bt_and (shr_rng (by omega)) (by decide)) ?_
      refine aw_if_ne (tgt := 55) dX7_plays_49 (by decide) (by first | assumption | omega) (fun c49 => ?_) (fun c49 => ?_)
      · rw [fst] at hbt48
        have hjy : y.toNat = j := by omega
        have hyes : (mi 72 (100 * w + z)).toNat.testBit j = true := by rw [← hjy]; rcases hbt48 with ⟨q, -⟩ | ⟨-, q⟩; (exact q); (omega)
        rw [show (mi 58 6).toNat - j = ((mi 58 6).toNat - (j + 1)) + 1 by omega, innL_yes hyes, List.cons_append, ← hyj] at hI
        obtain ⟨k59, k60, -⟩ := hB.2.2 y (by omega) (by omega)
        refine aw_aload_n (i := 0) (q := 0) dX7_plays_55 rfl rfl ?_
        refine aw_iload (i := 6) (q := 6) dX7_plays_56 rfl ?_
        refine aw_iload_n (i := 2) (q := 2) dX7_plays_58 rfl rfl ?_
        refine aw_iload (i := 5) (q := 5) dX7_plays_59 rfl ?_
        refine aw_iload_n (i := 3) (q := 3) dX7_plays_61 rfl rfl ?_
        refine aw_imul dX7_plays_62 ?_
        refine aw_iadd dX7_plays_63 ?_
        refine aw_i2l dX7_plays_64 (by first | assumption | omega) ?_
        refine aw_cVi (As := [iI y, lL (T + (z * s))]) (st := []) clX7_174 (s_X7_refuses (mi := m) hR (mB_fr hfr hB) hI.2.2.2.1 (by rw [hfr 58 7 (by omega) (by omega)]; exact hpl) (by rw [f6]; omega) (by omega)) SH_58 rfl (by decide) rfl rfl (Nat.le_of_ble_eq_true rfl) (by decide) (by decide) (Nat.le_refl _) (Nat.le_refl _) dX7_plays_65 (fun v65 m1 hv65 => ?_)
        have hx0 : v65 = eM mi (mL m) y (T + z * s) := by rw [hv65.1, ← eM_fr hfr]; rfl
        have hxr := eM_rng mi (mL m) y (T + z * s)
        have hI1 := jI_70 hI hv65.2
        have e18 : m1 58 18 = m 58 18 := hv65.2 _ _ (by decide)
        have eL1 : mL m1 = mL m := mL_congr (fun j => ⟨hv65.2 _ _ (by decide), hv65.2 _ _ (by decide), hv65.2 _ _ (by decide)⟩) e18
        refine aw_istore (i := 7) (lv' := [(0, .ref 58), (1, iI w), (2, iI T), (3, iI s), (4, iI (mi 58 18)), (5, iI z), (6, iI y), (7, iI v65)]) [1, 2, 3, 4, 5, 6, 7, 0] dX7_plays_68 (by decide) rfl ?_
        refine aw_iload (i := 7) (q := 7) dX7_plays_70 rfl ?_
        refine aw_if_eq (tgt := 84) dX7_plays_72 (by decide) (by first | assumption | omega) (fun c72 => ?_) (fun c72 => ?_)
        · have hz0 : eM mi (mL m) y (T + z * s) = 0 := by omega
          have ht9 := exam_0.mp hz0
          have hl300 := ht9.2.2.2.1
          have hln := mL_len hI.2.2.2.1
          have e59 : m1 59 y = mi 59 y := hI1.2.2.2.2.1 _ _ (by omega) (by omega)
          refine aw_aload_n (i := 0) (q := 0) dX7_plays_84 rfl rfl ?_
          refine aw_iload (i := 6) (q := 6) dX7_plays_85 rfl ?_
          refine aw_iload_n (i := 2) (q := 2) dX7_plays_87 rfl rfl ?_
          refine aw_iload (i := 5) (q := 5) dX7_plays_88 rfl ?_
          refine aw_iload_n (i := 3) (q := 3) dX7_plays_90 rfl rfl ?_
          refine aw_imul dX7_plays_91 ?_
          refine aw_iadd dX7_plays_92 ?_
          refine aw_cVv (As := [iI y, iI (T + (z * s))]) (st := []) clX7_178 (s_X7_schedules (mi := m1) hR hI1.2.2.2.1 (by omega) (by omega) (by omega) (by omega)) SH_58 rfl (by decide) rfl rfl (Nat.le_of_ble_eq_true rfl) (by decide) (by decide) (Nat.le_refl _) (Nat.le_refl _) dX7_plays_93 (fun m2 hm2 => ?_)
          refine aw_iinc (i := 6) (q := 6) (x := y) (lv' := [(0, .ref 58), (1, iI w), (2, iI T), (3, iI s), (4, iI (mi 58 18)), (5, iI z), (6, iI (y + 1)), (7, iI v65)]) [1, 2, 3, 4, 5, 6, 0, 7] dX7_plays_96 rfl (by decide) rfl ?_
          refine aw_goto (tgt := 23) dX7_plays_99 (by decide) ?_
          have hI2 := jI_step hI1 (by rw [eL1]; exact hz0) (by omega) (by omega) k59 (by omega)
          rw [← hm2] at hI2
          refine aw_sub (lv' := [(0, .ref 58), (1, iI w), (2, iI T), (3, iI s), (4, iI (mi 58 18)), (5, iI z), (6, iI (y + 1))]) [0, 1, 2, 3, 4, 5, 6] rfl ?_
          exact ih _ (y + 1) (j + 1) hI2 (by omega) (by omega) (by omega)
        · refine aw_aload_n (i := 0) (q := 0) dX7_plays_75 rfl rfl ?_
          refine aw_iload (i := 4) (q := 4) dX7_plays_76 rfl ?_
          refine aw_putIk 18 flX7_171 SH_58 (by decide) rfl rfl rfl (by first | assumption | omega) dX7_plays_78 ?_
          refine aw_iload (i := 7) (q := 7) dX7_plays_81 rfl ?_
          exact aw_iret ⟨_, rfl, rfl, rfl, (jI_back hI1 rfl ho).2.1, (jI_back hI1 rfl ho).2.2, Or.inl ⟨by rw [jI_refuse hI (by omega)]; omega, by rw [jI_refuse hI (by omega)]; exact hx0, (jI_back hI1 rfl ho).1⟩⟩ (Nat.le_refl _) (Nat.le_refl _) dX7_plays_83
      · refine aw_goto (tgt := 96) dX7_plays_52 (by decide) ?_
        refine aw_iinc (i := 6) (q := 6) (x := y) (lv' := [(0, .ref 58), (1, iI w), (2, iI T), (3, iI s), (4, iI (mi 58 18)), (5, iI z), (6, iI (y + 1))]) [1, 2, 3, 4, 5, 6, 0] dX7_plays_96 rfl (by decide) rfl ?_
        refine aw_goto (tgt := 23) dX7_plays_99 (by decide) ?_
        rw [fst] at hbt48
        have hjy : y.toNat = j := by omega
        have hno : ¬ (mi 72 (100 * w + z)).toNat.testBit j = true := by rw [← hjy]; rcases hbt48 with ⟨-, q⟩ | ⟨q, -⟩; (omega); (exact q)
        rw [show (mi 58 6).toNat - j = ((mi 58 6).toNat - (j + 1)) + 1 by omega, innL_not hno] at hI
        exact ih _ _ (j + 1) hI (by omega) (by omega) (by omega)
theorem l_mplay1 {mr : aR} (hR : Rok mr) {mi : aM} {w T s : Int} (hB : mB mi) (ho : mOk mi) (hpl : 1 ≤ mi 58 7 ∧ mi 58 7 ≤ 12) (hp : pM mi) (hw : 0 ≤ w ∧ w < 5) (hT : 0 ≤ T ∧ T ≤ 100600) (hs : 1 ≤ s ∧ s ≤ 200) : ∀ (n : Nat) (m : aM) (z : Int) (i : Nat), jI mi m (outL (fun k => mi 72 (100 * w + k)) (mi 58 6).toNat T s (mi 73 w).toNat 0) (outL (fun k => mi 72 (100 * w + k)) (mi 58 6).toNat T s ((mi 73 w).toNat - i) i) → z = (i : Int) → (0 ≤ z ∧ z ≤ mi 73 w) → mi 73 w - z < n → AWm RX7 cX7_plays 8 3 (Pi mr (fun r m => mOk m ∧ frM mi m ∧ (((plL (eM mi) (dM mi) (outL (fun k => mi 72 (100 * w + k)) (mi 58 6).toNat T s (mi 73 w).toNat 0) (mL mi)).1 ≠ 0 ∧ r = (plL (eM mi) (dM mi) (outL (fun k => mi 72 (100 * w + k)) (mi 58 6).toNat T s (mi 73 w).toNat 0) (mL mi)).1 ∧ mL m = mL mi) ∨ ((plL (eM mi) (dM mi) (outL (fun k => mi 72 (100 * w + k)) (mi 58 6).toNat T s (mi 73 w).toNat 0) (mL mi)).1 = 0 ∧ r = ((outL (fun k => mi 72 (100 * w + k)) (mi 58 6).toNat T s (mi 73 w).toNat 0).length : Int) ∧ ((plL (eM mi) (dM mi) (outL (fun k => mi 72 (100 * w + k)) (mi 58 6).toNat T s (mi 73 w).toNat 0) (mL mi)).2).Perm (mL m))))) 9 [(0, .ref 58), (1, iI w), (2, iI T), (3, iI s), (4, iI (mi 58 18)), (5, iI z)] [] m mr := by
  intro n
  induction n with
  | zero => intro m z i hI hz h2 h3; omega
  | succ n ih =>
    intro m z i hI hz h2 h3
    have hfr := hI.2.2.2.2.1
    have f6 : m 58 6 = mi 58 6 := hfr 58 6 (by omega) (by omega)
    have f73 : m 73 w = mi 73 w := hfr 73 w (by omega) (by omega)
    have hn := hB.1
    have hpw := (hp w hw.1 hw.2).1
    have hc1 := hI.2.2.2.1.1
    have hc0 := ho.1
    refine aw_iload (i := 5) (q := 5) dX7_plays_9 rfl ?_
    refine aw_aload_n (i := 0) (q := 0) dX7_plays_11 rfl rfl ?_
    refine aw_getR (r := 73) flX7_57 SH_58 (by decide) rfl (rk_58_21 hR) dX7_plays_12 ?_
    refine aw_iload_n (i := 1) (q := 1) dX7_plays_15 rfl rfl ?_
    refine aw_ialdv (x := m 73 w) SH_73 (by decide) ⟨by omega, by omega⟩ rfl dX7_plays_16 (fun r16 => ?_)
    refine aw_icmp_ge (tgt := 108) dX7_plays_17 (by decide) (by first | assumption | omega) (by first | assumption | omega) (fun c17 => ?_) (fun c17 => ?_)
    · refine aw_aload_n (i := 0) (q := 0) dX7_plays_108 rfl rfl ?_
      refine aw_getIk (x := m 58 18) 18 flX7_171 SH_58 (by decide) rfl rfl rfl dX7_plays_109 (fun r109 => ?_)
      refine aw_iload (i := 4) (q := 4) dX7_plays_112 rfl ?_
      refine aw_isub dX7_plays_114 ?_
      rw [show (mi 73 w).toNat - i = 0 by omega] at hI
      have hlen9 : m 58 18 + 0 = mi 58 18 + ((outL (fun k => mi 72 (100 * w + k)) (mi 58 6).toNat T s (mi 73 w).toNat 0).length : Int) := hI.2.2.1
      exact aw_iret ⟨_, rfl, rfl, rfl, hI.2.2.2.1, hfr, Or.inr ⟨hI.1, by omega, hI.2.1⟩⟩ (Nat.le_refl _) (Nat.le_refl _) dX7_plays_115
    · refine aw_iconst dX7_plays_20 ?_
      refine aw_istore (i := 6) (lv' := [(0, .ref 58), (1, iI w), (2, iI T), (3, iI s), (4, iI (mi 58 18)), (5, iI z), (6, iI 0)]) [1, 2, 3, 4, 5, 6, 0] dX7_plays_21 (by decide) rfl ?_
      rw [show (mi 73 w).toNat - i = ((mi 73 w).toNat - (i + 1)) + 1 by omega, outL_s] at hI
      have hI0 : jI mi m (outL (fun k => mi 72 (100 * w + k)) (mi 58 6).toNat T s (mi 73 w).toNat 0) (innL (mi 72 (100 * w + z)) (T + z * s) ((mi 58 6).toNat - 0) 0 ++ outL (fun k => mi 72 (100 * w + k)) (mi 58 6).toNat T s ((mi 73 w).toNat - (i + 1)) (i + 1)) := by rw [hz]; exact hI
      exact l_mplay2 hR hB ho hpl hp hw hT hs hz (by omega) (fun m h => ih m (z + 1) (i + 1) h (by omega) (by omega) (by omega)) ((mi 58 6).toNat + 1) m 0 0 hI0 rfl (by omega) (by omega)
theorem s_X7_plays {mr : aR} (hR : Rok mr) {mi : aM} {w T s : Int} (hB : mB mi) (ho : mOk mi) (hpl : 1 ≤ mi 58 7 ∧ mi 58 7 ≤ 12) (hp : pM mi) (hw : 0 ≤ w ∧ w < 5) (hT : 0 ≤ T ∧ T ≤ 100600) (hs : 1 ≤ s ∧ s ≤ 200) : SPg yX7_plays cX7_plays 8 (some .int) 3 [.ref 58, iI w, iI T, iI s] mi mr (Pi mr (fun r m => mOk m ∧ frM mi m ∧ (((plL (eM mi) (dM mi) (outL (fun k => mi 72 (100 * w + k)) (mi 58 6).toNat T s (mi 73 w).toNat 0) (mL mi)).1 ≠ 0 ∧ r = (plL (eM mi) (dM mi) (outL (fun k => mi 72 (100 * w + k)) (mi 58 6).toNat T s (mi 73 w).toNat 0) (mL mi)).1 ∧ mL m = mL mi) ∨ ((plL (eM mi) (dM mi) (outL (fun k => mi 72 (100 * w + k)) (mi 58 6).toNat T s (mi 73 w).toNat 0) (mL mi)).1 = 0 ∧ r = ((outL (fun k => mi 72 (100 * w + k)) (mi 58 6).toNat T s (mi 73 w).toNat 0).length : Int) ∧ ((plL (eM mi) (dM mi) (outL (fun k => mi 72 (100 * w + k)) (mi 58 6).toNat T s (mi 73 w).toNat 0) (mL mi)).2).Perm (mL m))))) := by
  refine SPg.int rfl (by decide +kernel) (Nat.le_of_ble_eq_true rfl) ?_
  show AWm RX7 cX7_plays 8 3 _ 0 [(0, .ref 58), (1, iI w), (2, iI T), (3, iI s)] [] mi mr
  refine aw_aload_n (i := 0) (q := 0) dX7_plays_0 rfl rfl ?_
  refine aw_getIk (x := mi 58 18) 18 flX7_171 SH_58 (by decide) rfl rfl rfl dX7_plays_1 (fun r1 => ?_)
  refine aw_istore (i := 4) (lv' := [(0, .ref 58), (1, iI w), (2, iI T), (3, iI s), (4, iI (mi 58 18))]) [1, 2, 3, 4, 0] dX7_plays_4 (by decide) rfl ?_
  refine aw_iconst dX7_plays_6 ?_
  refine aw_istore (i := 5) (lv' := [(0, .ref 58), (1, iI w), (2, iI T), (3, iI s), (4, iI (mi 58 18)), (5, iI 0)]) [1, 2, 3, 4, 5, 0] dX7_plays_7 (by decide) rfl ?_
  have hI : jI mi mi (outL (fun k => mi 72 (100 * w + k)) (mi 58 6).toNat T s (mi 73 w).toNat 0) (outL (fun k => mi 72 (100 * w + k)) (mi 58 6).toNat T s ((mi 73 w).toNat - 0) 0) := ⟨rfl, List.Perm.refl _, rfl, ho, (fun _ _ _ _ => rfl), (fun _ _ _ => ⟨rfl, rfl, rfl⟩), Int.le_refl _⟩
  have hpw := (hp w hw.1 hw.2).1
  exact l_mplay1 hR hB ho hpl hp hw hT hs ((mi 73 w).toNat + 1) mi 0 0 hI rfl (by omega) (by omega)
