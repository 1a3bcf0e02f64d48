-- part 21: draftPattern (printed by wip/whole/gen/p21.py)
/-- what draftPattern asks of the class's cells -/
def dP (mi : aM) (mr : aR) (a : Nat) (T s : Int) : Prop := isP mr a ∧ pOk mi a ∧ cB mi ∧ (1 ≤ mi 1 14 ∧ mi 1 14 ≤ 12) ∧ (0 ≤ T ∧ T ≤ 100600) ∧ (1 ≤ s ∧ s ≤ 200)
theorem dP_bell {mi m : aM} {mr : aR} {a : Nat} {T s : Int} (h : dP mi mr a T s) (hf : fr13 mi m) {b : Int} (hb : 0 ≤ b ∧ b < 12) : bOk m (28 + b.toNat) := by
  have e := (h.2.2.1.2.2 b.toNat (by omega)).1
  have hm : ∀ j : Int, m (28 + b.toNat) j = mi (28 + b.toNat) j := fun j => hf _ _ (by omega)
  unfold bOk at *
  simp only [hm]
  exact e
/-- a pattern's cells aren't the draft's -/
theorem isP_far {mr : aR} {a : Nat} (h : isP mr a) : (a < 13 ∨ 17 < a) ∧ (a + 1 < 13 ∨ 17 < a + 1) := by
  obtain ⟨h1, h2, h3, h4, -⟩ := h
  have key : ∀ a, a < 95 → SH a = (0, 2) → 18 < a := by decide +kernel
  have := key a (by omega) h1
  omega
theorem mul_lt {z s : Int} (hz : 0 ≤ z ∧ z ≤ 100) (hs : 1 ≤ s ∧ s ≤ 200) : 0 ≤ z * s ∧ z * s ≤ 20000 := by
  have h1 : 0 ≤ z * s := Int.mul_nonneg hz.1 (by omega)
  have h2 : z * s ≤ 100 * 200 := Int.mul_le_mul hz.2 hs.2 (by omega) (by omega)
  omega
theorem innL_yes {x t : Int} {c b : Nat} (h : x.toNat.testBit b = true) : innL x t (c + 1) b = ((b : Int), t) :: innL x t c (b + 1) := by
  show (if _ then _ else _) = _
  rw [if_pos h]
theorem innL_not {x t : Int} {c b : Nat} (h : ¬ x.toNat.testBit b = true) : innL x t (c + 1) b = innL x t c (b + 1) := by
  show (if _ then _ else _) = _
  rw [if_neg h]
/-- a new stroke's command is none that the bell has -/
theorem new_of {m : aM} {a : Nat} {b t d e : Int} (ho : sOk m a) (h : ¬ clash (sL m a) b (t - d) t e) (hd : 1 ≤ d) (he : 0 ≤ e) : ∀ i : Int, 0 ≤ i → i < m a 4 → ¬ (m (a + 2) i = t - d ∧ m (a + 1) i = b) := by
  intro i i0 i1 q
  apply h
  rw [clash_idx ho]
  have := ho.2.1 i i0 i1
  exact ⟨i, i0, i1, q.2, by omega, by omega⟩
theorem l_draft2 {mr : aR} (hR : Rok mr) {mi : aM} {a : Nat} {T s : Int} (hd : dP mi mr a T s) {z struck : Int} {i : Nat} (hz : z = (i : Int)) (hzr : 0 ≤ z ∧ z < mi a 1) (hlen9 : ((outL (fun k => mi (a + 1) k) (mi 1 11).toNat T s (mi a 1).toNat 0).length : Int) ≤ 1200) (hst : (0 ≤ struck ∧ struck < 4096) ∧ ∀ y : Int, 0 ≤ y ∧ y < mi 1 11 → (bit struck y ↔ bit (mi (a + 1) z) y)) (kx : ∀ (m : aM) (g : Int), dI mi m (outL (fun k => mi (a + 1) k) (mi 1 11).toNat T s (mi a 1).toNat 0) (outL (fun k => mi (a + 1) k) (mi 1 11).toNat T s ((mi a 1).toNat - (i + 1)) (i + 1)) g → AWm RX6 cX6_draftPattern 11 4 (Pi mr (fun r m => (((plL (eC mi) (dC mi) (outL (fun k => mi (a + 1) k) (mi 1 11).toNat T s (mi a 1).toNat 0) (sL mi 8)).1 ≠ 0 ∧ r = (plL (eC mi) (dC mi) (outL (fun k => mi (a + 1) k) (mi 1 11).toNat T s (mi a 1).toNat 0) (sL mi 8)).1) ∨ ((plL (eC mi) (dC mi) (outL (fun k => mi (a + 1) k) (mi 1 11).toNat T s (mi a 1).toNat 0) (sL mi 8)).1 = 0 ∧ r = ((outL (fun k => mi (a + 1) k) (mi 1 11).toNat T s (mi a 1).toNat 0).length : Int) ∧ ((plL (eC mi) (dC mi) (outL (fun k => mi (a + 1) k) (mi 1 11).toNat T s (mi a 1).toNat 0) (sL mi 8)).2).Perm (sL m 13) ∧ sOk m 13)) ∧ fr13 mi m)) 23 [(0, .ref 1), (1, .ref a), (2, iI T), (3, iI s), (4, iI (((2 ^ (mi 1 11).toNat : Nat) : Int) - 1)), (5, iI g), (6, iI (z + 1))] [] m mr) : ∀ (n : Nat) (m : aM) (strokes y : Int) (j : Nat), dI mi m (outL (fun k => mi (a + 1) k) (mi 1 11).toNat T s (mi a 1).toNat 0) (innL (mi (a + 1) z) (T + z * s) ((mi 1 11).toNat - j) j ++ outL (fun k => mi (a + 1) k) (mi 1 11).toNat T s ((mi a 1).toNat - (i + 1)) (i + 1)) strokes → y = (j : Int) → (0 ≤ y ∧ y ≤ mi 1 11) → mi 1 11 - y < n → AWm RX6 cX6_draftPattern 11 4 (Pi mr (fun r m => (((plL (eC mi) (dC mi) (outL (fun k => mi (a + 1) k) (mi 1 11).toNat T s (mi a 1).toNat 0) (sL mi 8)).1 ≠ 0 ∧ r = (plL (eC mi) (dC mi) (outL (fun k => mi (a + 1) k) (mi 1 11).toNat T s (mi a 1).toNat 0) (sL mi 8)).1) ∨ ((plL (eC mi) (dC mi) (outL (fun k => mi (a + 1) k) (mi 1 11).toNat T s (mi a 1).toNat 0) (sL mi 8)).1 = 0 ∧ r = ((outL (fun k => mi (a + 1) k) (mi 1 11).toNat T s (mi a 1).toNat 0).length : Int) ∧ ((plL (eC mi) (dC mi) (outL (fun k => mi (a + 1) k) (mi 1 11).toNat T s (mi a 1).toNat 0) (sL mi 8)).2).Perm (sL m 13) ∧ sOk m 13)) ∧ fr13 mi m)) 55 [(0, .ref 1), (1, .ref a), (2, iI T), (3, iI s), (4, iI (((2 ^ (mi 1 11).toNat : Nat) : Int) - 1)), (5, iI strokes), (6, iI z), (7, iI struck), (8, iI (T + z * s)), (9, iI y)] [] m mr := by
  intro n
  induction n with
  | zero => intro m strokes y j hI hyj h2 h3; omega
  | succ n ih =>
    intro m strokes y j hI hyj h2 h3
    have hfr := hI.2.2.2.2
    have f11 : m 1 11 = mi 1 11 := hfr 1 11 (by omega)
    have f13 : m 1 13 = mi 1 13 := hfr 1 13 (by omega)
    have f14 : m 1 14 = mi 1 14 := hfr 1 14 (by omega)
    have hc1 := hd.2.2.1.1
    have hc2 := hd.2.2.1.2.1
    have hc4 := hd.2.2.2.1
    have hT := hd.2.2.2.2.1
    have hs := hd.2.2.2.2.2
    have hp1 := hd.2.1.1
    have hms := mul_lt (z := z) (s := s) (by omega) hs
    refine aw_iload (i := 9) (q := 9) dX6_draftPattern_55 rfl ?_
    refine aw_aload_n (i := 0) (q := 0) dX6_draftPattern_57 rfl rfl ?_
    refine aw_getIk (x := m 1 11) 11 flX6_66 SH_1 (by decide) rfl rfl rfl dX6_draftPattern_58 (fun r58 => ?_)
    refine aw_icmp_ge (tgt := 134) dX6_draftPattern_61 (by decide) (by first | assumption | omega) (by first | assumption | omega) (fun c61 => ?_) (fun c61 => ?_)
    · refine aw_sub (lv' := [(0, .ref 1), (1, .ref a), (2, iI T), (3, iI s), (4, iI (((2 ^ (mi 1 11).toNat : Nat) : Int) - 1)), (5, iI strokes), (6, iI z)]) [0, 1, 2, 3, 4, 5, 6] rfl ?_
      refine aw_iinc (i := 6) (q := 6) (x := z) (lv' := [(0, .ref 1), (1, .ref a), (2, iI T), (3, iI s), (4, iI (((2 ^ (mi 1 11).toNat : Nat) : Int) - 1)), (5, iI strokes), (6, iI (z + 1))]) [1, 2, 3, 4, 5, 6, 0] dX6_draftPattern_134 rfl (by decide) rfl ?_
      refine aw_goto (tgt := 23) dX6_draftPattern_137 (by decide) ?_
      refine kx _ _ ?_
      have hno9 : innL (mi (a + 1) z) (T + z * s) ((mi 1 11).toNat - j) j = [] := by first | (rw [show (mi 1 11).toNat - j = 0 by omega]; rfl) | exact innL_none _ _ (fun jj q1 q2 q3 => by have e9 := (hst.2 (jj : Int) (by omega)).mpr (by unfold bit; rw [Int.toNat_natCast]; exact q3); rw [show struck = 0 by omega] at e9; exact bit_0 e9)
      rw [hno9, List.nil_append] at hI
      exact hI
    · refine aw_iload (i := 7) (q := 7) dX6_draftPattern_64 rfl ?_
      refine aw_if_eq (tgt := 134) dX6_draftPattern_66 (by decide) (by first | assumption | omega) (fun c66 => ?_) (fun c66 => ?_)
      · refine aw_sub (lv' := [(0, .ref 1), (1, .ref a), (2, iI T), (3, iI s), (4, iI (((2 ^ (mi 1 11).toNat : Nat) : Int) - 1)), (5, iI strokes), (6, iI z)]) [0, 1, 2, 3, 4, 5, 6] rfl ?_
        refine aw_iinc (i := 6) (q := 6) (x := z) (lv' := [(0, .ref 1), (1, .ref a), (2, iI T), (3, iI s), (4, iI (((2 ^ (mi 1 11).toNat : Nat) : Int) - 1)), (5, iI strokes), (6, iI (z + 1))]) [1, 2, 3, 4, 5, 6, 0] dX6_draftPattern_134 rfl (by decide) rfl ?_
        refine aw_goto (tgt := 23) dX6_draftPattern_137 (by decide) ?_
        refine kx _ _ ?_
        have hno9 : innL (mi (a + 1) z) (T + z * s) ((mi 1 11).toNat - j) j = [] := by first | (rw [show (mi 1 11).toNat - j = 0 by omega]; rfl) | exact innL_none _ _ (fun jj q1 q2 q3 => by have e9 := (hst.2 (jj : Int) (by omega)).mpr (by unfold bit; rw [Int.toNat_natCast]; exact q3); rw [show struck = 0 by omega] at e9; exact bit_0 e9)
        rw [hno9, List.nil_append] at hI
        exact hI
      · have hbx := hst.2 y (by omega)
        have hjy : y.toNat = j := by omega
        refine aw_iload (i := 7) (q := 7) dX6_draftPattern_69 rfl ?_
        refine aw_iload (i := 9) (q := 9) dX6_draftPattern_71 rfl ?_
        refine aw_ishr (z := (((struck).toNat / 2 ^ (y).toNat : Nat) : Int)) dX6_draftPattern_73 (bt_shr (by omega) (by omega)) ?_
        refine aw_iconst dX6_draftPattern_74 ?_
        obtain ⟨bw75, hbw75, hbt75⟩ := bit_w struck y
        refine aw_iand (z := bw75) dX6_draftPattern_75 (by rw [hbw75]; exact bt_and (shr_rng (by omega)) (by decide)) ?_
        refine aw_if_eq (tgt := 128) dX6_draftPattern_76 (by decide) (by first | assumption | omega) (fun c76 => ?_) (fun c76 => ?_)
        · refine aw_iinc (i := 9) (q := 9) (x := y) (lv' := [(0, .ref 1), (1, .ref a), (2, iI T), (3, iI s), (4, iI (((2 ^ (mi 1 11).toNat : Nat) : Int) - 1)), (5, iI strokes), (6, iI z), (7, iI struck), (8, iI (T + z * s)), (9, iI (y + 1))]) [1, 2, 3, 4, 5, 6, 7, 8, 9, 0] dX6_draftPattern_128 rfl (by decide) rfl ?_
          refine aw_goto (tgt := 55) dX6_draftPattern_131 (by decide) ?_
          have hno : ¬ (mi (a + 1) z).toNat.testBit j = true := by rw [← hjy]; exact fun q => (by have q2 := hbx.mpr q; rcases hbt75 with ⟨-, q⟩ | ⟨q, -⟩; (omega); (exact q q2))
          rw [show (mi 1 11).toNat - j = ((mi 1 11).toNat - (j + 1)) + 1 by omega, innL_not hno] at hI
          exact ih _ _ _ (j + 1) hI (by omega) (by omega) (by omega)
        · have hyes : (mi (a + 1) z).toNat.testBit j = true := by rw [← hjy]; exact hbx.mp (by rcases hbt75 with ⟨q, -⟩ | ⟨-, q⟩; (exact q); (omega))
          rw [show (mi 1 11).toNat - j = ((mi 1 11).toNat - (j + 1)) + 1 by omega, innL_yes hyes, List.cons_append, ← hyj] at hI
          refine aw_aload_n (i := 0) (q := 0) dX6_draftPattern_79 rfl rfl ?_
          refine aw_aload_n (i := 0) (q := 0) dX6_draftPattern_80 rfl rfl ?_
          refine aw_getR (r := 13) flX6_34 SH_1 (by decide) rfl (rk_1_4 hR) dX6_draftPattern_81 ?_
          refine aw_iload (i := 9) (q := 9) dX6_draftPattern_84 rfl ?_
          refine aw_iload (i := 8) (q := 8) dX6_draftPattern_86 rfl ?_
          refine aw_cVi (As := [.ref 13, iI y, iI (T + z * s)]) (st := []) clX6_133 (s_X6_examine (mi := m) hR (Or.inr rfl) hI.2.2.2.1 (by omega) (dP_bell hd hfr (by omega)) (by omega) (by omega) (by omega)) SH_1 rfl (by decide) rfl rfl (Nat.le_of_ble_eq_true rfl) (by decide) (by decide) (Nat.le_refl _) (Nat.le_refl _) dX6_draftPattern_88 (fun v88 m1 hv88 => ?_)
          have hx0 : v88 = eC mi (sL m 13) y (T + z * s) := by rw [hv88.1, ← eC_fr hfr]; rfl
          have hI1 := dI_mem hI hv88.2
          have hxr : -8 ≤ v88 ∧ v88 ≤ 0 := by rw [hv88.1]; exact exam_rng _ _ _ _ _ _ _ _ _
          refine aw_istore (i := 10) (lv' := [(0, .ref 1), (1, .ref a), (2, iI T), (3, iI s), (4, iI (((2 ^ (mi 1 11).toNat : Nat) : Int) - 1)), (5, iI strokes), (6, iI z), (7, iI struck), (8, iI (T + z * s)), (9, iI y), (10, iI v88)]) [1, 2, 3, 4, 5, 6, 7, 8, 9, 10, 0] dX6_draftPattern_91 (by decide) rfl ?_
          refine aw_iload (i := 10) (q := 10) dX6_draftPattern_93 rfl ?_
          refine aw_if_eq (tgt := 101) dX6_draftPattern_95 (by decide) (by first | assumption | omega) (fun c95 => ?_) (fun c95 => ?_)
          · have hz0 : v88 = 0 := by omega
            have ht9 := eC_t (hx0 ▸ hz0)
            have hb9 := (hd.2.2.1.2.2 y.toNat (by omega)).1
            have hsl : sL m1 13 = sL m 13 := sL_congr (fun j => ⟨hv88.2 _ _ (by omega), hv88.2 _ _ (by omega), hv88.2 _ _ (by omega)⟩) (hv88.2 _ _ (by omega))
            have f0y : m1 (28 + y.toNat) 0 = dC mi y := by rw [hI1.2.2.2.2 _ _ (by omega)]; rfl
            have hd9 : 1 ≤ dC mi y ∧ dC mi y ≤ 50 := hb9.1
            have hgl : strokes + 1 ≤ 100000 := by have h3 := hI.2.2.1; have hwl := hlen9; omega
            refine aw_aload_n (i := 0) (q := 0) dX6_draftPattern_101 rfl rfl ?_
            refine aw_getR (r := 13) flX6_34 SH_1 (by decide) rfl (rk_1_4 hR) dX6_draftPattern_102 ?_
            refine aw_iload (i := 9) (q := 9) dX6_draftPattern_105 rfl ?_
            refine aw_iload (i := 8) (q := 8) dX6_draftPattern_107 rfl ?_
            refine aw_aload_n (i := 0) (q := 0) dX6_draftPattern_109 rfl rfl ?_
            refine aw_getR (r := 2) flX6_11 SH_1 (by decide) rfl (rk_1_0 hR) dX6_draftPattern_110 ?_
            refine aw_iload (i := 9) (q := 9) dX6_draftPattern_113 rfl ?_
            refine aw_aald (r := 28 + (y).toNat) SH_2 (by decide) (by decide) ⟨by omega, by omega⟩ (hR.2.1 _ (by omega) (by omega)) dX6_draftPattern_115 ?_
            refine aw_getIk (x := m1 (28 + (y).toNat) 0) 0 flX6_91 (SH_bell ⟨by omega, by omega⟩) ⟨by omega, by omega⟩ rfl rfl rfl dX6_draftPattern_116 (fun r116 => ?_)
            refine aw_isub dX6_draftPattern_119 ?_
            refine aw_iload (i := 8) (q := 8) dX6_draftPattern_120 rfl ?_
            refine aw_cVv (As := [iI y, iI ((T + z * s) - (m1 (28 + (y).toNat) 0)), iI (T + z * s)]) (st := []) clX6_137 (s_X4_insert (mi := m1) hR (Or.inr rfl) hI1.2.2.2.1 (by have h := sL_len hI1.2.2.2.1; rw [hsl] at h; omega) (by omega) (by omega) (by omega) (new_of hI1.2.2.2.1 (by rw [hsl, f0y]; exact ht9.2.2.2.2) (by omega) (he := hb9.2.1.1))) SH_13 rfl (by decide) rfl rfl (Nat.le_of_ble_eq_true rfl) (by decide) (by decide) (Nat.le_refl _) (Nat.le_refl _) dX6_draftPattern_122 (fun m2 hm2 => ?_)
            refine aw_iinc (i := 5) (q := 5) (x := strokes) (lv' := [(0, .ref 1), (1, .ref a), (2, iI T), (3, iI s), (4, iI (((2 ^ (mi 1 11).toNat : Nat) : Int) - 1)), (5, iI (strokes + 1)), (6, iI z), (7, iI struck), (8, iI (T + z * s)), (9, iI y), (10, iI v88)]) [1, 2, 3, 4, 5, 0, 6, 7, 8, 9, 10] dX6_draftPattern_125 rfl (by decide) rfl ?_
            refine aw_iinc (i := 9) (q := 9) (x := y) (lv' := [(0, .ref 1), (1, .ref a), (2, iI T), (3, iI s), (4, iI (((2 ^ (mi 1 11).toNat : Nat) : Int) - 1)), (5, iI (strokes + 1)), (6, iI z), (7, iI struck), (8, iI (T + z * s)), (9, iI (y + 1)), (10, iI v88)]) [1, 2, 3, 4, 5, 6, 7, 8, 9, 0, 10] dX6_draftPattern_128 rfl (by decide) rfl ?_
            refine aw_goto (tgt := 55) dX6_draftPattern_131 (by decide) ?_
            have hI2 := dI_step hI (hx0 ▸ hz0) (by rw [← hsl, ← f0y]; exact hm2.1) hm2.2.1 (fun x jj hx => by rw [hm2.2.2.2 x jj (by omega) (by omega) (by omega) (by omega)]; exact hI1.2.2.2.2 x jj hx)
            refine aw_sub (lv' := [(0, .ref 1), (1, .ref a), (2, iI T), (3, iI s), (4, iI (((2 ^ (mi 1 11).toNat : Nat) : Int) - 1)), (5, iI (strokes + 1)), (6, iI z), (7, iI struck), (8, iI (T + z * s)), (9, iI (y + 1))]) [0, 1, 2, 3, 4, 5, 6, 7, 8, 9] rfl ?_
            exact ih _ (strokes + 1) (y + 1) (j + 1) hI2 (by omega) (by omega) (by omega)
          · refine aw_iload (i := 10) (q := 10) dX6_draftPattern_98 rfl ?_
            exact aw_iret ⟨_, rfl, rfl, rfl, ⟨Or.inl ⟨by rw [dI_refuse hI hx0 (by omega)]; omega, (dI_refuse hI hx0 (by omega)).symm⟩, hI1.2.2.2.2⟩⟩ (Nat.le_refl _) (Nat.le_refl _) dX6_draftPattern_100
theorem dI_end {mi m : aM} {all : List (Int × Int)} {g : Int} (h : dI mi m all [] g) : ((plL (eC mi) (dC mi) all (sL mi 8)).1 ≠ 0 ∧ g = (plL (eC mi) (dC mi) all (sL mi 8)).1) ∨ ((plL (eC mi) (dC mi) all (sL mi 8)).1 = 0 ∧ g = (all.length : Int) ∧ ((plL (eC mi) (dC mi) all (sL mi 8)).2).Perm (sL m 13) ∧ sOk m 13) := by
  obtain ⟨h1, h2, h3, h4, -⟩ := h
  refine Or.inr ⟨h1, ?_, h2, h4⟩
  rw [List.length_nil] at h3
  omega
theorem innL_le (x t : Int) : ∀ c b : Nat, (innL x t c b).length ≤ c
  | 0, _ => Nat.le_refl _
  | c + 1, b => by
    have h := innL_le x t c (b + 1)
    unfold innL
    split
    · rw [List.length_cons]; omega
    · omega
theorem outL_le (S : Int → Int) (NB : Nat) (T s : Int) : ∀ c k : Nat, (outL S NB T s c k).length ≤ NB * c
  | 0, _ => Nat.zero_le _
  | c + 1, k => by
    have h1 := innL_le (S k) (T + k * s) NB 0
    have h2 := outL_le S NB T s c (k + 1)
    unfold outL
    rw [List.length_append, Nat.mul_succ]
    omega
theorem outL_1200 (S : Int → Int) (T s : Int) {NB c : Nat} (k : Nat) (h1 : NB ≤ 12) (h2 : c ≤ 100) : (outL S NB T s c k).length ≤ 1200 := Nat.le_trans (outL_le S NB T s c k) (Nat.mul_le_mul h1 h2)
theorem l_draft1 {mr : aR} (hR : Rok mr) {mi : aM} {a : Nat} {T s : Int} (hd : dP mi mr a T s) (hlen9 : ((outL (fun k => mi (a + 1) k) (mi 1 11).toNat T s (mi a 1).toNat 0).length : Int) ≤ 1200) : ∀ (n : Nat) (m : aM) (strokes z : Int) (i : Nat), dI mi m (outL (fun k => mi (a + 1) k) (mi 1 11).toNat T s (mi a 1).toNat 0) (outL (fun k => mi (a + 1) k) (mi 1 11).toNat T s ((mi a 1).toNat - i) i) strokes → z = (i : Int) → (0 ≤ z ∧ z ≤ mi a 1) → mi a 1 - z < n → AWm RX6 cX6_draftPattern 11 4 (Pi mr (fun r m => (((plL (eC mi) (dC mi) (outL (fun k => mi (a + 1) k) (mi 1 11).toNat T s (mi a 1).toNat 0) (sL mi 8)).1 ≠ 0 ∧ r = (plL (eC mi) (dC mi) (outL (fun k => mi (a + 1) k) (mi 1 11).toNat T s (mi a 1).toNat 0) (sL mi 8)).1) ∨ ((plL (eC mi) (dC mi) (outL (fun k => mi (a + 1) k) (mi 1 11).toNat T s (mi a 1).toNat 0) (sL mi 8)).1 = 0 ∧ r = ((outL (fun k => mi (a + 1) k) (mi 1 11).toNat T s (mi a 1).toNat 0).length : Int) ∧ ((plL (eC mi) (dC mi) (outL (fun k => mi (a + 1) k) (mi 1 11).toNat T s (mi a 1).toNat 0) (sL mi 8)).2).Perm (sL m 13) ∧ sOk m 13)) ∧ fr13 mi m)) 23 [(0, .ref 1), (1, .ref a), (2, iI T), (3, iI s), (4, iI (((2 ^ (mi 1 11).toNat : Nat) : Int) - 1)), (5, iI strokes), (6, iI z)] [] m mr := by
  intro n
  induction n with
  | zero => intro m strokes z i hI hz h2 h3; omega
  | succ n ih =>
    intro m strokes z i hI hz h2 h3
    have hfr := hI.2.2.2.2
    have f11 : m 1 11 = mi 1 11 := hfr 1 11 (by omega)
    have f13 : m 1 13 = mi 1 13 := hfr 1 13 (by omega)
    have f14 : m 1 14 = mi 1 14 := hfr 1 14 (by omega)
    have hc1 := hd.2.2.1.1
    have hc2 := hd.2.2.1.2.1
    have hc4 := hd.2.2.2.1
    have hT := hd.2.2.2.2.1
    have hs := hd.2.2.2.2.2
    have hp1 := hd.2.1.1
    have fa1 : m a 1 = mi a 1 := hfr _ _ (isP_far hd.1).1
    have hex := ex_set hc1
    have hms := mul_lt (z := z) (s := s) (by omega) hs
    refine aw_iload (i := 6) (q := 6) dX6_draftPattern_23 rfl ?_
    refine aw_aload_n (i := 1) (q := 1) dX6_draftPattern_25 rfl rfl ?_
    refine aw_getIk (x := m a 1) 1 flX6_201 hd.1.1 hd.1.2.2.1 rfl rfl rfl dX6_draftPattern_26 (fun r26 => ?_)
    refine aw_icmp_ge (tgt := 140) dX6_draftPattern_29 (by decide) (by first | assumption | omega) (by first | assumption | omega) (fun c29 => ?_) (fun c29 => ?_)
    · refine aw_iload (i := 5) (q := 5) dX6_draftPattern_140 rfl ?_
      rw [show (mi a 1).toNat - i = 0 by omega] at hI
      exact aw_iret ⟨_, rfl, rfl, rfl, dI_end hI, hfr⟩ (Nat.le_refl _) (Nat.le_refl _) dX6_draftPattern_142
    · have hst9 := hd.2.1.2 z (by omega) (by omega)
      have hfar := isP_far hd.1
      have fst : m (a + 1) z = mi (a + 1) z := hfr _ _ hfar.2
      refine aw_aload_n (i := 1) (q := 1) dX6_draftPattern_32 rfl rfl ?_
      refine aw_getR (r := a + 1) flX6_193 hd.1.1 hd.1.2.2.1 rfl hd.1.2.2.2.2 dX6_draftPattern_33 ?_
      refine aw_iload (i := 6) (q := 6) dX6_draftPattern_36 rfl ?_
      refine aw_ialdv (x := mi (a + 1) z) hd.1.2.1 hd.1.2.2.2.1 ⟨by omega, by omega⟩ fst dX6_draftPattern_38 (fun r38 => ?_)
      refine aw_iload (i := 4) (q := 4) dX6_draftPattern_39 rfl ?_
      refine aw_iand (z := (((mi (a + 1) z).toNat &&& (((2 ^ (mi 1 11).toNat : Nat) : Int) - 1).toNat : Nat) : Int)) dX6_draftPattern_41 (bt_and (by omega) (by omega)) ?_
      refine aw_istore (i := 7) (lv' := [(0, .ref 1), (1, .ref a), (2, iI T), (3, iI s), (4, iI (((2 ^ (mi 1 11).toNat : Nat) : Int) - 1)), (5, iI strokes), (6, iI z), (7, iI ((((mi (a + 1) z).toNat &&& (((2 ^ (mi 1 11).toNat : Nat) : Int) - 1).toNat : Nat) : Int)))]) [1, 2, 3, 4, 5, 6, 7, 0] dX6_draftPattern_42 (by decide) rfl ?_
      refine aw_iload_n (i := 2) (q := 2) dX6_draftPattern_44 rfl rfl ?_
      refine aw_iload (i := 6) (q := 6) dX6_draftPattern_45 rfl ?_
      refine aw_iload_n (i := 3) (q := 3) dX6_draftPattern_47 rfl rfl ?_
      refine aw_imul dX6_draftPattern_48 ?_
      refine aw_iadd dX6_draftPattern_49 ?_
      refine aw_istore (i := 8) (lv' := [(0, .ref 1), (1, .ref a), (2, iI T), (3, iI s), (4, iI (((2 ^ (mi 1 11).toNat : Nat) : Int) - 1)), (5, iI strokes), (6, iI z), (7, iI ((((mi (a + 1) z).toNat &&& (((2 ^ (mi 1 11).toNat : Nat) : Int) - 1).toNat : Nat) : Int))), (8, iI (T + (z * s)))]) [1, 2, 3, 4, 5, 6, 7, 8, 0] dX6_draftPattern_50 (by decide) rfl ?_
      refine aw_iconst dX6_draftPattern_52 ?_
      refine aw_istore (i := 9) (lv' := [(0, .ref 1), (1, .ref a), (2, iI T), (3, iI s), (4, iI (((2 ^ (mi 1 11).toNat : Nat) : Int) - 1)), (5, iI strokes), (6, iI z), (7, iI ((((mi (a + 1) z).toNat &&& (((2 ^ (mi 1 11).toNat : Nat) : Int) - 1).toNat : Nat) : Int))), (8, iI (T + (z * s))), (9, iI 0)]) [1, 2, 3, 4, 5, 6, 7, 8, 9, 0] dX6_draftPattern_53 (by decide) rfl ?_
      rw [show (mi a 1).toNat - i = ((mi a 1).toNat - (i + 1)) + 1 by omega] at hI
      have hI0 : dI mi m (outL (fun k => mi (a + 1) k) (mi 1 11).toNat T s (mi a 1).toNat 0) (innL (mi (a + 1) z) (T + z * s) ((mi 1 11).toNat - 0) 0 ++ outL (fun k => mi (a + 1) k) (mi 1 11).toNat T s ((mi a 1).toNat - (i + 1)) (i + 1)) strokes := by rw [hz]; exact hI
      exact l_draft2 hR hd hz (by omega) hlen9 ⟨and_rng hst9, fun y hy => stk_bit hc1.1 hy⟩ (fun m g h => ih m g (z + 1) (i + 1) h (by omega) (by omega) (by omega)) ((mi 1 11).toNat + 1) m strokes 0 0 hI0 rfl (by omega) (by omega)
theorem s_X6_draftPattern {mr : aR} (hR : Rok mr) {mi : aM} {a : Nat} {T s : Int} (hd : dP mi mr a T s) (hos : sOk mi 8) : SPg yX6_draftPattern cX6_draftPattern 11 (some .int) 4 [.ref 1, .ref a, iI T, iI s] mi mr (Pi mr (fun r m => (((plL (eC mi) (dC mi) (outL (fun k => mi (a + 1) k) (mi 1 11).toNat T s (mi a 1).toNat 0) (sL mi 8)).1 ≠ 0 ∧ r = (plL (eC mi) (dC mi) (outL (fun k => mi (a + 1) k) (mi 1 11).toNat T s (mi a 1).toNat 0) (sL mi 8)).1) ∨ ((plL (eC mi) (dC mi) (outL (fun k => mi (a + 1) k) (mi 1 11).toNat T s (mi a 1).toNat 0) (sL mi 8)).1 = 0 ∧ r = ((outL (fun k => mi (a + 1) k) (mi 1 11).toNat T s (mi a 1).toNat 0).length : Int) ∧ ((plL (eC mi) (dC mi) (outL (fun k => mi (a + 1) k) (mi 1 11).toNat T s (mi a 1).toNat 0) (sL mi 8)).2).Perm (sL m 13) ∧ sOk m 13)) ∧ fr13 mi m)) := by
  refine SPg.int rfl (by decide +kernel) (Nat.le_of_ble_eq_true rfl) ?_
  show AWm RX6 cX6_draftPattern 11 4 _ 0 [(0, .ref 1), (1, .ref a), (2, iI T), (3, iI s)] [] mi mr
  refine aw_aload_n (i := 0) (q := 0) dX6_draftPattern_0 rfl rfl ?_
  refine aw_getR (r := 13) flX6_34 SH_1 (by decide) rfl (rk_1_4 hR) dX6_draftPattern_1 ?_
  refine aw_aload_n (i := 0) (q := 0) dX6_draftPattern_4 rfl rfl ?_
  refine aw_getR (r := 8) flX6_30 SH_1 (by decide) rfl (rk_1_3 hR) dX6_draftPattern_5 ?_
  refine aw_cVv (As := [.ref 8]) (st := []) clX6_218 (s_X4_copyFrom hR (Or.inr rfl) (Or.inl rfl) (by decide) hos) SH_13 rfl (by decide) rfl rfl (Nat.le_of_ble_eq_true rfl) (by decide) (by decide) (Nat.le_refl _) (Nat.le_refl _) dX6_draftPattern_8 (fun m0 hm0 => ?_)
  have h0f : fr13 mi m0 := fun x j hx => hm0.2.2.2 x j (by omega) (by omega) (by omega) (by omega)
  refine aw_aload_n (i := 0) (q := 0) dX6_draftPattern_11 rfl rfl ?_
  refine aw_cVp (As := []) (st := []) clX6_208 (s_X6_existingBells (mi := m0) hR (by rw [h0f 1 11 (by omega)]; exact hd.2.2.1.1)) SH_1 rfl (by decide) rfl rfl (Nat.le_of_ble_eq_true rfl) (by decide) (by decide) (Nat.le_refl _) (Nat.le_refl _) dX6_draftPattern_12 (fun ex hex => ?_)
  rw [h0f 1 11 (by omega)] at hex
  subst hex
  refine aw_istore (i := 4) (lv' := [(0, .ref 1), (1, .ref a), (2, iI T), (3, iI s), (4, iI (((2 ^ (mi 1 11).toNat : Nat) : Int) - 1))]) [1, 2, 3, 4, 0] dX6_draftPattern_15 (by decide) rfl ?_
  refine aw_iconst dX6_draftPattern_17 ?_
  refine aw_istore (i := 5) (lv' := [(0, .ref 1), (1, .ref a), (2, iI T), (3, iI s), (4, iI (((2 ^ (mi 1 11).toNat : Nat) : Int) - 1)), (5, iI 0)]) [1, 2, 3, 4, 5, 0] dX6_draftPattern_18 (by decide) rfl ?_
  refine aw_iconst dX6_draftPattern_20 ?_
  refine aw_istore (i := 6) (lv' := [(0, .ref 1), (1, .ref a), (2, iI T), (3, iI s), (4, iI (((2 ^ (mi 1 11).toNat : Nat) : Int) - 1)), (5, iI 0), (6, iI 0)]) [1, 2, 3, 4, 5, 6, 0] dX6_draftPattern_21 (by decide) rfl ?_
  have hI : dI mi m0 (outL (fun k => mi (a + 1) k) (mi 1 11).toNat T s (mi a 1).toNat 0) (outL (fun k => mi (a + 1) k) (mi 1 11).toNat T s ((mi a 1).toNat - 0) 0) 0 := ⟨by rw [hm0.1]; rfl, by rw [hm0.1]; exact List.Perm.refl _, by show 0 + _ = _; rw [Int.zero_add]; rfl, hm0.2.1, h0f⟩
  have hlen9 := outL_1200 (fun k => mi (a + 1) k) T s (NB := (mi 1 11).toNat) (c := (mi a 1).toNat) 0 (by have := hd.2.2.1.1; omega) (by have := hd.2.1.1; omega)
  exact l_draft1 hR hd (by omega) ((mi a 1).toNat + 1) m0 0 0 0 hI rfl ⟨by omega, hd.2.1.1.1⟩ (by have := hd.2.1.1; omega)
