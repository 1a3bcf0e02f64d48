-- part 25: fitsAlone (printed by wip/whole/gen/p25.py)
theorem outL_s (S : Int → Int) (NB : Nat) (T s : Int) (c k : Nat) : outL S NB T s (c + 1) k = innL (S k) (T + k * s) NB 0 ++ outL S NB T s c (k + 1) := rfl
/-- the spared play: what is left to examine alone -/
def alI (mi m : aM) (all rest : List (Int × Int)) : Prop :=
  (plL (e0C mi) (dC mi) all []).1 = (plL (e0C mi) (dC mi) rest (sL m 13)).1 ∧ sOk m 13 ∧ fr13 mi m
theorem alI_refuse {mi m : aM} {all rest : List (Int × Int)} {b t : Int} (h : alI mi m all ((b, t) :: rest)) (h0 : e0C mi (sL m 13) b t ≠ 0) : (plL (e0C mi) (dC mi) all []).1 ≠ 0 := by
  rw [h.1, plL_no (by exact h0)]
  exact h0
theorem alI_mem {mi m m1 : aM} {all rest : List (Int × Int)} (h : alI mi m all rest) (hm : ∀ (x : Nat) (j : Int), x ≠ 13 + 4 → m1 x j = m x j) : alI mi m1 all rest := by
  obtain ⟨h1, h4, h5⟩ := h
  have e : sL m1 13 = sL m 13 := sL_congr (fun j => ⟨hm _ _ (by omega), hm _ _ (by omega), hm _ _ (by omega)⟩) (hm _ _ (by omega))
  exact ⟨by rw [e]; exact h1, sOk_congr (fun j => ⟨hm _ _ (by omega), hm _ _ (by omega), hm _ _ (by omega)⟩) (hm _ _ (by omega)) h4, fun x j hx => by rw [hm x j (by omega)]; exact h5 x j hx⟩
theorem alI_step {mi m m2 : aM} {all rest : List (Int × Int)} {b t : Int} (h : alI mi m all ((b, t) :: rest)) (h0 : e0C mi (sL m 13) b t = 0) (hp : (sL m2 13).Perm ((b, t - dC mi b, t) :: sL m 13)) (ho : sOk m2 13) (hf : fr13 mi m2) : alI mi m2 all rest := by
  obtain ⟨h1, h4, h5⟩ := h
  rw [plL_ok (by exact h0)] at h1
  exact ⟨by rw [h1]; exact (plL_perm (dl := dC mi) (e0C_perm mi) rest _ _ hp).1.symm, ho, hf⟩
theorem l_alone2 {mr : aR} (hR : Rok mr) {mi : aM} {a : Nat} {s : Int} (hd : dP mi mr a 0 s) {z struck : Int} {i : Nat} (hz : z = (i : Int)) (hzr : 0 ≤ z ∧ z < mi a 1) (hst : (0 ≤ struck ∧ struck < 4096) ∧ ∀ y : Int, 0 ≤ y ∧ y < mi 1 11 → (bit struck y ↔ bit (mi (a + 1) z) y)) (kx : ∀ (m : aM), alI mi m (outL (fun k => mi (a + 1) k) (mi 1 11).toNat 0 s (mi a 1).toNat 0) (outL (fun k => mi (a + 1) k) (mi 1 11).toNat 0 s ((mi a 1).toNat - (i + 1)) (i + 1)) → AWm RX6 cX6_fitsAlone 10 4 (Pi mr (fun r m => ((r = 1 ∧ (plL (e0C mi) (dC mi) (outL (fun k => mi (a + 1) k) (mi 1 11).toNat 0 s (mi a 1).toNat 0) []).1 = 0) ∨ (r = 0 ∧ (plL (e0C mi) (dC mi) (outL (fun k => mi (a + 1) k) (mi 1 11).toNat 0 s (mi a 1).toNat 0) []).1 ≠ 0)) ∧ fr13 mi m)) 10 [(0, .ref 1), (1, .ref a), (2, iI s), (3, iI (z + 1))] [] m mr) : ∀ (n : Nat) (m : aM) (y : Int) (j : Nat), alI mi m (outL (fun k => mi (a + 1) k) (mi 1 11).toNat 0 s (mi a 1).toNat 0) (innL (mi (a + 1) z) (z * s) ((mi 1 11).toNat - j) j ++ outL (fun k => mi (a + 1) k) (mi 1 11).toNat 0 s ((mi a 1).toNat - (i + 1)) (i + 1)) → y = (j : Int) → (0 ≤ y ∧ y ≤ mi 1 11) → mi 1 11 - y < n → AWm RX6 cX6_fitsAlone 10 4 (Pi mr (fun r m => ((r = 1 ∧ (plL (e0C mi) (dC mi) (outL (fun k => mi (a + 1) k) (mi 1 11).toNat 0 s (mi a 1).toNat 0) []).1 = 0) ∨ (r = 0 ∧ (plL (e0C mi) (dC mi) (outL (fun k => mi (a + 1) k) (mi 1 11).toNat 0 s (mi a 1).toNat 0) []).1 ≠ 0)) ∧ fr13 mi m)) 39 [(0, .ref 1), (1, .ref a), (2, iI s), (3, iI z), (4, iI struck), (5, iI (z * s)), (6, iI y)] [] m mr := by
  intro n
  induction n with
  | zero => intro m y j hI hyj h2 h3; omega
  | succ n ih =>
    intro m y j hI hyj h2 h3
    have hfr := hI.2.2
    have f11 : m 1 11 = mi 1 11 := hfr 1 11 (by omega)
    have f14 : m 1 14 = mi 1 14 := hfr 1 14 (by omega)
    have hc1 := hd.2.2.1.1
    have hc2 := hd.2.2.1.2.1
    have hc4 := hd.2.2.2.1
    have hs := hd.2.2.2.2.2
    have hp1 := hd.2.1.1
    have hln := sL_len hI.2.1
    have hms := mul_lt (z := z) (s := s) (by omega) hs
    refine aw_iload (i := 6) (q := 6) dX6_fitsAlone_39 rfl ?_
    refine aw_aload_n (i := 0) (q := 0) dX6_fitsAlone_41 rfl rfl ?_
    refine aw_getIk (x := m 1 11) 11 flX6_66 SH_1 (by decide) rfl rfl rfl dX6_fitsAlone_42 (fun r42 => ?_)
    refine aw_icmp_ge (tgt := 171) dX6_fitsAlone_45 (by decide) (by first | assumption | omega) (by first | assumption | omega) (fun c45 => ?_) (fun c45 => ?_)
    · refine aw_sub (lv' := [(0, .ref 1), (1, .ref a), (2, iI s), (3, iI z)]) [0, 1, 2, 3] rfl ?_
      refine aw_iinc (i := 3) (q := 3) (x := z) (lv' := [(0, .ref 1), (1, .ref a), (2, iI s), (3, iI (z + 1))]) [1, 2, 3, 0] dX6_fitsAlone_171 rfl (by decide) rfl ?_
      refine aw_goto (tgt := 10) dX6_fitsAlone_174 (by decide) ?_
      refine kx _ ?_
      have hno9 : innL (mi (a + 1) z) (z * s) ((mi 1 11).toNat - j) j = [] := by first | (rw [show (mi 1 11).toNat - j = 0 by omega]; rfl) | exact innL_none _ _ (fun jj q1 q2 q3 => by have e9 := (hst.2 (jj : Int) (by omega)).mpr (by unfold bit; rw [Int.toNat_natCast]; exact q3); rw [show struck = 0 by omega] at e9; exact bit_0 e9)
      rw [hno9, List.nil_append] at hI
      exact hI
    · refine aw_iload (i := 4) (q := 4) dX6_fitsAlone_48 rfl ?_
      refine aw_if_eq (tgt := 171) dX6_fitsAlone_50 (by decide) (by first | assumption | omega) (fun c50 => ?_) (fun c50 => ?_)
      · refine aw_sub (lv' := [(0, .ref 1), (1, .ref a), (2, iI s), (3, iI z)]) [0, 1, 2, 3] rfl ?_
        refine aw_iinc (i := 3) (q := 3) (x := z) (lv' := [(0, .ref 1), (1, .ref a), (2, iI s), (3, iI (z + 1))]) [1, 2, 3, 0] dX6_fitsAlone_171 rfl (by decide) rfl ?_
        refine aw_goto (tgt := 10) dX6_fitsAlone_174 (by decide) ?_
        refine kx _ ?_
        have hno9 : innL (mi (a + 1) z) (z * s) ((mi 1 11).toNat - j) j = [] := by first | (rw [show (mi 1 11).toNat - j = 0 by omega]; rfl) | exact innL_none _ _ (fun jj q1 q2 q3 => by have e9 := (hst.2 (jj : Int) (by omega)).mpr (by unfold bit; rw [Int.toNat_natCast]; exact q3); rw [show struck = 0 by omega] at e9; exact bit_0 e9)
        rw [hno9, List.nil_append] at hI
        exact hI
      · have hbx := hst.2 y (by omega)
        have hjy : y.toNat = j := by omega
        refine aw_iload (i := 4) (q := 4) dX6_fitsAlone_53 rfl ?_
        refine aw_iload (i := 6) (q := 6) dX6_fitsAlone_55 rfl ?_
        refine aw_ishr (z := (((struck).toNat / 2 ^ (y).toNat : Nat) : Int)) dX6_fitsAlone_57 (bt_shr (by omega) (by omega)) ?_
        refine aw_iconst dX6_fitsAlone_58 ?_
        obtain ⟨bw59, hbw59, hbt59⟩ := bit_w struck y
        refine aw_iand (z := bw59) dX6_fitsAlone_59 (by rw [hbw59]; exact bt_and (shr_rng (by omega)) (by decide)) ?_
        refine aw_if_eq (tgt := 165) dX6_fitsAlone_60 (by decide) (by first | assumption | omega) (fun c60 => ?_) (fun c60 => ?_)
        · refine aw_iinc (i := 6) (q := 6) (x := y) (lv' := [(0, .ref 1), (1, .ref a), (2, iI s), (3, iI z), (4, iI struck), (5, iI (z * s)), (6, iI (y + 1))]) [1, 2, 3, 4, 5, 6, 0] dX6_fitsAlone_165 rfl (by decide) rfl ?_
          refine aw_goto (tgt := 39) dX6_fitsAlone_168 (by decide) ?_
          have hno : ¬ (mi (a + 1) z).toNat.testBit j = true := by rw [← hjy]; exact fun q => (by have q2 := hbx.mpr q; rcases hbt59 with ⟨-, q⟩ | ⟨q, -⟩; (omega); (exact q q2))
          rw [show (mi 1 11).toNat - j = ((mi 1 11).toNat - (j + 1)) + 1 by omega, innL_not hno] at hI
          exact ih _ _ (j + 1) hI (by omega) (by omega) (by omega)
        · have hyes : (mi (a + 1) z).toNat.testBit j = true := by rw [← hjy]; exact hbx.mp (by rcases hbt59 with ⟨q, -⟩ | ⟨-, q⟩; (exact q); (omega))
          rw [show (mi 1 11).toNat - j = ((mi 1 11).toNat - (j + 1)) + 1 by omega, innL_yes hyes, List.cons_append, ← hyj] at hI
          have f0y : m (28 + y.toNat) 0 = mi (28 + y.toNat) 0 := hfr _ _ (by omega)
          have f1y : m (28 + y.toNat) 1 = mi (28 + y.toNat) 1 := hfr _ _ (by omega)
          have hb9 := (hd.2.2.1.2.2 y.toNat (by omega)).1
          have hb0 := hb9.1
          have hb1 := hb9.2.1
          have hE : e0C mi (sL m 13) y (z * s) = 0 ↔ (sL m 13).length < 300 ∧ ¬ clash (sL m 13) y (z * s - m (28 + y.toNat) 0) (z * s) (m (28 + y.toNat) 1) ∧ ¬ over (sL m 13) (z * s - m (28 + y.toNat) 0) (z * s) (m 1 14) := by rw [e0C_0, f0y, f1y, f14]
          refine aw_aload_n (i := 0) (q := 0) dX6_fitsAlone_63 rfl rfl ?_
          refine aw_getR (r := 2) flX6_11 SH_1 (by decide) rfl (rk_1_0 hR) dX6_fitsAlone_64 ?_
          refine aw_iload (i := 6) (q := 6) dX6_fitsAlone_67 rfl ?_
          refine aw_aald (r := 28 + (y).toNat) SH_2 (by decide) (by decide) ⟨by omega, by omega⟩ (hR.2.1 _ (by omega) (by omega)) dX6_fitsAlone_69 ?_
          refine aw_astore (i := 7) (lv' := [(0, .ref 1), (1, .ref a), (2, iI s), (3, iI z), (4, iI struck), (5, iI (z * s)), (6, iI y), (7, .ref (28 + (y).toNat))]) [1, 2, 3, 4, 5, 6, 7, 0] dX6_fitsAlone_70 (by decide) rfl ?_
          refine aw_iload (i := 5) (q := 5) dX6_fitsAlone_72 rfl ?_
          refine aw_aload (i := 7) (q := 7) dX6_fitsAlone_74 rfl ?_
          refine aw_getIk (x := m (28 + (y).toNat) 0) 0 flX6_91 (SH_bell ⟨by omega, by omega⟩) ⟨by omega, by omega⟩ rfl rfl rfl dX6_fitsAlone_76 (fun r76 => ?_)
          refine aw_isub dX6_fitsAlone_79 ?_
          refine aw_istore (i := 8) (lv' := [(0, .ref 1), (1, .ref a), (2, iI s), (3, iI z), (4, iI struck), (5, iI (z * s)), (6, iI y), (7, .ref (28 + (y).toNat)), (8, iI ((z * s) - (m (28 + (y).toNat) 0)))]) [1, 2, 3, 4, 5, 6, 7, 8, 0] dX6_fitsAlone_80 (by decide) rfl ?_
          refine aw_aload_n (i := 0) (q := 0) dX6_fitsAlone_82 rfl rfl ?_
          refine aw_getR (r := 13) flX6_34 SH_1 (by decide) rfl (rk_1_4 hR) dX6_fitsAlone_83 ?_
          refine aw_iload (i := 8) (q := 8) dX6_fitsAlone_86 rfl ?_
          refine aw_sipush (x := 150) dX6_fitsAlone_88 rfl ?_
          refine aw_isub dX6_fitsAlone_91 ?_
          refine aw_cVp (As := [iI (((z * s) - (m (28 + (y).toNat) 0)) - 150)]) (st := []) clX6_323 (s_X4_rankOf hR (Or.inr rfl) hI.2.1 (by omega)) SH_13 rfl (by decide) rfl rfl (Nat.le_of_ble_eq_true rfl) (by decide) (by decide) (Nat.le_refl _) (Nat.le_refl _) dX6_fitsAlone_92 (fun f hf => ?_)
          refine aw_istore (i := 9) (lv' := [(0, .ref 1), (1, .ref a), (2, iI s), (3, iI z), (4, iI struck), (5, iI (z * s)), (6, iI y), (7, .ref (28 + (y).toNat)), (8, iI ((z * s) - (m (28 + (y).toNat) 0))), (9, iI f)]) [1, 2, 3, 4, 5, 6, 7, 8, 9, 0] dX6_fitsAlone_95 (by decide) rfl ?_
          refine aw_aload_n (i := 0) (q := 0) dX6_fitsAlone_97 rfl rfl ?_
          refine aw_getR (r := 13) flX6_34 SH_1 (by decide) rfl (rk_1_4 hR) dX6_fitsAlone_98 ?_
          refine aw_cVp (As := []) (st := []) clX6_166 (s_X4_isFull hR (Or.inr rfl)) SH_13 rfl (by decide) rfl rfl (Nat.le_of_ble_eq_true rfl) (by decide) (by decide) (Nat.le_refl _) (Nat.le_refl _) dX6_fitsAlone_101 (fun v101 hv101 => ?_)
          refine aw_if_ne (tgt := 150) dX6_fitsAlone_104 (by decide) (by first | assumption | omega) (fun c104 => ?_) (fun c104 => ?_)
          · refine aw_iconst dX6_fitsAlone_150 ?_
            exact aw_iret ⟨_, rfl, rfl, rfl, (Or.inr ⟨rfl, alI_refuse hI (fun q => by have q9 := hE.mp q; first | omega | (exact q9.2.1 ((clash_idx hI.2.1).mpr (by rcases hv124 with ⟨-, i, q1, q2, q3, q4, q5⟩ | ⟨q, -⟩; (exact ⟨i, by omega, q2, q4, q3, q5⟩); (exact absurd q (by omega))))) | (exact q9.2.2 (by rcases hv144.1 with ⟨-, k, q1, q2, q3⟩ | ⟨q, -⟩; (exact ⟨k, q1, q2, by rw [← covI_sL]; exact q3⟩); (exact absurd q (by omega)))))⟩), hI.2.2⟩ (Nat.le_refl _) (Nat.le_refl _) dX6_fitsAlone_151
          · refine aw_aload_n (i := 0) (q := 0) dX6_fitsAlone_107 rfl rfl ?_
            refine aw_getR (r := 13) flX6_34 SH_1 (by decide) rfl (rk_1_4 hR) dX6_fitsAlone_108 ?_
            refine aw_iload (i := 9) (q := 9) dX6_fitsAlone_111 rfl ?_
            refine aw_iload (i := 6) (q := 6) dX6_fitsAlone_113 rfl ?_
            refine aw_iload (i := 8) (q := 8) dX6_fitsAlone_115 rfl ?_
            refine aw_iload (i := 5) (q := 5) dX6_fitsAlone_117 rfl ?_
            refine aw_aload (i := 7) (q := 7) dX6_fitsAlone_119 rfl ?_
            refine aw_getIk (x := m (28 + (y).toNat) 1) 1 flX6_94 (SH_bell ⟨by omega, by omega⟩) ⟨by omega, by omega⟩ rfl rfl rfl dX6_fitsAlone_121 (fun r121 => ?_)
            refine aw_cVp (As := [iI f, iI y, iI ((z * s) - (m (28 + (y).toNat) 0)), iI (z * s), iI (m (28 + (y).toNat) 1)]) (st := []) clX6_326 (s_X4_clashes hR (Or.inr rfl) hI.2.1 hf.1 (by omega) (by omega) (by omega) (by omega)) SH_13 rfl (by decide) rfl rfl (Nat.le_of_ble_eq_true rfl) (by decide) (by decide) (Nat.le_refl _) (Nat.le_refl _) dX6_fitsAlone_124 (fun v124 hv124 => ?_)
            refine aw_if_ne (tgt := 150) dX6_fitsAlone_127 (by decide) (by first | assumption | omega) (fun c127 => ?_) (fun c127 => ?_)
            · refine aw_iconst dX6_fitsAlone_150 ?_
              exact aw_iret ⟨_, rfl, rfl, rfl, (Or.inr ⟨rfl, alI_refuse hI (fun q => by have q9 := hE.mp q; first | omega | (exact q9.2.1 ((clash_idx hI.2.1).mpr (by rcases hv124 with ⟨-, i, q1, q2, q3, q4, q5⟩ | ⟨q, -⟩; (exact ⟨i, by omega, q2, q4, q3, q5⟩); (exact absurd q (by omega))))) | (exact q9.2.2 (by rcases hv144.1 with ⟨-, k, q1, q2, q3⟩ | ⟨q, -⟩; (exact ⟨k, q1, q2, by rw [← covI_sL]; exact q3⟩); (exact absurd q (by omega)))))⟩), hI.2.2⟩ (Nat.le_refl _) (Nat.le_refl _) dX6_fitsAlone_151
            · refine aw_aload_n (i := 0) (q := 0) dX6_fitsAlone_130 rfl rfl ?_
              refine aw_getR (r := 13) flX6_34 SH_1 (by decide) rfl (rk_1_4 hR) dX6_fitsAlone_131 ?_
              refine aw_iload (i := 9) (q := 9) dX6_fitsAlone_134 rfl ?_
              refine aw_iload (i := 8) (q := 8) dX6_fitsAlone_136 rfl ?_
              refine aw_iload (i := 5) (q := 5) dX6_fitsAlone_138 rfl ?_
              refine aw_aload_n (i := 0) (q := 0) dX6_fitsAlone_140 rfl rfl ?_
              refine aw_getIk (x := m 1 14) 14 flX6_76 SH_1 (by decide) rfl rfl rfl dX6_fitsAlone_141 (fun r141 => ?_)
              refine aw_cVi (As := [iI f, iI ((z * s) - (m (28 + (y).toNat) 0)), iI (z * s), iI (m 1 14)]) (st := []) clX6_330 (s_X4_overloads hR (Or.inr rfl) hI.2.1 hf.1 (by omega) (by omega) (by omega) (fun i x y => by have := hf.2.1 i x y; have := hI.2.1.2.1 i x (by omega); omega)) SH_13 rfl (by decide) rfl rfl (Nat.le_of_ble_eq_true rfl) (by decide) (by decide) (Nat.le_refl _) (Nat.le_refl _) dX6_fitsAlone_144 (fun v144 m1 hv144 => ?_)
              refine aw_if_eq (tgt := 152) dX6_fitsAlone_147 (by decide) (by first | assumption | omega) (fun c147 => ?_) (fun c147 => ?_)
              · have hncl : ¬ clash (sL m 13) y (z * s - m (28 + y.toNat) 0) (z * s) (m (28 + y.toNat) 1) := by
                  intro q
                  obtain ⟨i, q0, q1, q2, q3, q4⟩ := (clash_idx hI.2.1).mp q
                  rcases hv124 with ⟨q, -⟩ | ⟨-, q⟩
                  · omega
                  · by_cases e : i < f
                    · have := hf.2.1 i q0 e; have := hI.2.1.2.1 i q0 q1; omega
                    · exact q i (by omega) q1 ⟨q3, q2, q4⟩
                have hnov : ¬ over (sL m 13) (z * s - m (28 + y.toNat) 0) (z * s) (m 1 14) := fun q => by
                  obtain ⟨k, q1, q2, q3⟩ := q
                  rcases hv144.1 with ⟨q, -⟩ | ⟨-, q⟩
                  · omega
                  · have := q k q1 q2; rw [covI_sL] at this; omega
                have hz1 := hE.mpr ⟨by omega, hncl, hnov⟩
                have hz0 := e0C_0.mp hz1
                have hI1 := alI_mem hI hv144.2
                have hsl : sL m1 13 = sL m 13 := sL_congr (fun j => ⟨hv144.2 _ _ (by omega), hv144.2 _ _ (by omega), hv144.2 _ _ (by omega)⟩) (hv144.2 _ _ (by omega))
                have f0y1 : m (28 + y.toNat) 0 = dC mi y := f0y
                have hd9 : 1 ≤ dC mi y ∧ dC mi y ≤ 50 := hb9.1
                refine aw_aload_n (i := 0) (q := 0) dX6_fitsAlone_152 rfl rfl ?_
                refine aw_getR (r := 13) flX6_34 SH_1 (by decide) rfl (rk_1_4 hR) dX6_fitsAlone_153 ?_
                refine aw_iload (i := 6) (q := 6) dX6_fitsAlone_156 rfl ?_
                refine aw_iload (i := 8) (q := 8) dX6_fitsAlone_158 rfl ?_
                refine aw_iload (i := 5) (q := 5) dX6_fitsAlone_160 rfl ?_
                refine aw_cVv (As := [iI y, iI ((z * s) - (m (28 + (y).toNat) 0)), iI (z * s)]) (st := []) clX6_137 (s_X4_insert (mi := m1) hR (Or.inr rfl) hI1.2.1 (by have h := sL_len hI1.2.1; rw [hsl] at h; omega) (by omega) (by omega) (by omega) (new_of hI1.2.1 (by rw [hsl, f0y1]; exact hz0.2.1) (by omega) (he := hb9.2.1.1))) SH_13 rfl (by decide) rfl rfl (Nat.le_of_ble_eq_true rfl) (by decide) (by decide) (Nat.le_refl _) (Nat.le_refl _) dX6_fitsAlone_162 (fun m2 hm2 => ?_)
                refine aw_iinc (i := 6) (q := 6) (x := y) (lv' := [(0, .ref 1), (1, .ref a), (2, iI s), (3, iI z), (4, iI struck), (5, iI (z * s)), (6, iI (y + 1)), (7, .ref (28 + (y).toNat)), (8, iI ((z * s) - (m (28 + (y).toNat) 0))), (9, iI f)]) [1, 2, 3, 4, 5, 6, 0, 7, 8, 9] dX6_fitsAlone_165 rfl (by decide) rfl ?_
                refine aw_goto (tgt := 39) dX6_fitsAlone_168 (by decide) ?_
                have hI2 := alI_step hI hz1 (by rw [← hsl]; rw [f0y1] at hm2; exact hm2.1) hm2.2.1 (fun x jj hx => by rw [hm2.2.2.2 x jj (by omega) (by omega) (by omega) (by omega)]; exact hI1.2.2 x jj hx)
                refine aw_sub (lv' := [(0, .ref 1), (1, .ref a), (2, iI s), (3, iI z), (4, iI struck), (5, iI (z * s)), (6, iI (y + 1))]) [0, 1, 2, 3, 4, 5, 6] rfl ?_
                exact ih _ (y + 1) (j + 1) hI2 (by omega) (by omega) (by omega)
              · refine aw_iconst dX6_fitsAlone_150 ?_
                exact aw_iret ⟨_, rfl, rfl, rfl, (Or.inr ⟨rfl, alI_refuse hI (fun q => by have q9 := hE.mp q; first | omega | (exact q9.2.1 ((clash_idx hI.2.1).mpr (by rcases hv124 with ⟨-, i, q1, q2, q3, q4, q5⟩ | ⟨q, -⟩; (exact ⟨i, by omega, q2, q4, q3, q5⟩); (exact absurd q (by omega))))) | (exact q9.2.2 (by rcases hv144.1 with ⟨-, k, q1, q2, q3⟩ | ⟨q, -⟩; (exact ⟨k, q1, q2, by rw [← covI_sL]; exact q3⟩); (exact absurd q (by omega)))))⟩), (alI_mem hI hv144.2).2.2⟩ (Nat.le_refl _) (Nat.le_refl _) dX6_fitsAlone_151
theorem l_alone1 {mr : aR} (hR : Rok mr) {mi : aM} {a : Nat} {s : Int} (hd : dP mi mr a 0 s) : ∀ (n : Nat) (m : aM) (z : Int) (i : Nat), alI mi m (outL (fun k => mi (a + 1) k) (mi 1 11).toNat 0 s (mi a 1).toNat 0) (outL (fun k => mi (a + 1) k) (mi 1 11).toNat 0 s ((mi a 1).toNat - i) i) → z = (i : Int) → (0 ≤ z ∧ z ≤ mi a 1) → mi a 1 - z < n → AWm RX6 cX6_fitsAlone 10 4 (Pi mr (fun r m => ((r = 1 ∧ (plL (e0C mi) (dC mi) (outL (fun k => mi (a + 1) k) (mi 1 11).toNat 0 s (mi a 1).toNat 0) []).1 = 0) ∨ (r = 0 ∧ (plL (e0C mi) (dC mi) (outL (fun k => mi (a + 1) k) (mi 1 11).toNat 0 s (mi a 1).toNat 0) []).1 ≠ 0)) ∧ fr13 mi m)) 10 [(0, .ref 1), (1, .ref a), (2, iI s), (3, iI z)] [] m mr := by
  intro n
  induction n with
  | zero => intro m z i hI hz h2 h3; omega
  | succ n ih =>
    intro m z i hI hz h2 h3
    have hfr := hI.2.2
    have f11 : m 1 11 = mi 1 11 := hfr 1 11 (by omega)
    have f14 : m 1 14 = mi 1 14 := hfr 1 14 (by omega)
    have hc1 := hd.2.2.1.1
    have hc2 := hd.2.2.1.2.1
    have hc4 := hd.2.2.2.1
    have hs := hd.2.2.2.2.2
    have hp1 := hd.2.1.1
    have hln := sL_len hI.2.1
    have fa1 : m a 1 = mi a 1 := hfr _ _ (isP_far hd.1).1
    have hex := ex_set hc1
    refine aw_iload_n (i := 3) (q := 3) dX6_fitsAlone_10 rfl rfl ?_
    refine aw_aload_n (i := 1) (q := 1) dX6_fitsAlone_11 rfl rfl ?_
    refine aw_getIk (x := m a 1) 1 flX6_201 hd.1.1 hd.1.2.2.1 rfl rfl rfl dX6_fitsAlone_12 (fun r12 => ?_)
    refine aw_icmp_ge (tgt := 177) dX6_fitsAlone_15 (by decide) (by first | assumption | omega) (by first | assumption | omega) (fun c15 => ?_) (fun c15 => ?_)
    · refine aw_iconst dX6_fitsAlone_177 ?_
      rw [show (mi a 1).toNat - i = 0 by omega] at hI
      exact aw_iret ⟨_, rfl, rfl, rfl, Or.inl ⟨rfl, by rw [hI.1]; rfl⟩, hfr⟩ (Nat.le_refl _) (Nat.le_refl _) dX6_fitsAlone_178
    · refine aw_aload_n (i := 1) (q := 1) dX6_fitsAlone_18 rfl rfl ?_
      refine aw_getR (r := a + 1) flX6_193 hd.1.1 hd.1.2.2.1 rfl hd.1.2.2.2.2 dX6_fitsAlone_19 ?_
      refine aw_iload_n (i := 3) (q := 3) dX6_fitsAlone_22 rfl rfl ?_
      have hst9 := hd.2.1.2 z (by omega) (by omega)
      have hfar := isP_far hd.1
      have fst : m (a + 1) z = mi (a + 1) z := hfr _ _ hfar.2
      refine aw_ialdv (x := mi (a + 1) z) hd.1.2.1 hd.1.2.2.2.1 ⟨by omega, by omega⟩ fst dX6_fitsAlone_23 (fun r23 => ?_)
      refine aw_aload_n (i := 0) (q := 0) dX6_fitsAlone_24 rfl rfl ?_
      refine aw_cVp (As := []) (st := [iI (mi (a + 1) z)]) clX6_208 (s_X6_existingBells (mi := m) hR (by rw [f11]; exact hd.2.2.1.1)) SH_1 rfl (by decide) rfl rfl (Nat.le_of_ble_eq_true rfl) (by decide) (by decide) (Nat.le_refl _) (Nat.le_refl _) dX6_fitsAlone_25 (fun ex hex9 => ?_)
      rw [f11] at hex9
      subst hex9
      refine aw_iand (z := (((mi (a + 1) z).toNat &&& (((2 ^ (mi 1 11).toNat : Nat) : Int) - 1).toNat : Nat) : Int)) dX6_fitsAlone_28 (bt_and (by omega) (by omega)) ?_
      refine aw_istore (i := 4) (lv' := [(0, .ref 1), (1, .ref a), (2, iI s), (3, iI z), (4, iI ((((mi (a + 1) z).toNat &&& (((2 ^ (mi 1 11).toNat : Nat) : Int) - 1).toNat : Nat) : Int)))]) [1, 2, 3, 4, 0] dX6_fitsAlone_29 (by decide) rfl ?_
      have hms := mul_lt (z := z) (s := s) (by omega) hs
      refine aw_iload_n (i := 3) (q := 3) dX6_fitsAlone_31 rfl rfl ?_
      refine aw_iload_n (i := 2) (q := 2) dX6_fitsAlone_32 rfl rfl ?_
      refine aw_imul dX6_fitsAlone_33 ?_
      refine aw_istore (i := 5) (lv' := [(0, .ref 1), (1, .ref a), (2, iI s), (3, iI z), (4, iI ((((mi (a + 1) z).toNat &&& (((2 ^ (mi 1 11).toNat : Nat) : Int) - 1).toNat : Nat) : Int))), (5, iI (z * s))]) [1, 2, 3, 4, 5, 0] dX6_fitsAlone_34 (by decide) rfl ?_
      refine aw_iconst dX6_fitsAlone_36 ?_
      refine aw_istore (i := 6) (lv' := [(0, .ref 1), (1, .ref a), (2, iI s), (3, iI z), (4, iI ((((mi (a + 1) z).toNat &&& (((2 ^ (mi 1 11).toNat : Nat) : Int) - 1).toNat : Nat) : Int))), (5, iI (z * s)), (6, iI 0)]) [1, 2, 3, 4, 5, 6, 0] dX6_fitsAlone_37 (by decide) rfl ?_
      rw [show (mi a 1).toNat - i = ((mi a 1).toNat - (i + 1)) + 1 by omega] at hI
      have hI0 : alI mi m (outL (fun k => mi (a + 1) k) (mi 1 11).toNat 0 s (mi a 1).toNat 0) (innL (mi (a + 1) z) (z * s) ((mi 1 11).toNat - 0) 0 ++ outL (fun k => mi (a + 1) k) (mi 1 11).toNat 0 s ((mi a 1).toNat - (i + 1)) (i + 1)) := by have h9 := hI; rw [outL_s, ← hz, Int.zero_add] at h9; exact h9
      exact l_alone2 hR hd hz (by omega) ⟨and_rng hst9, fun y hy => stk_bit hc1.1 hy⟩ (fun m h => ih m (z + 1) (i + 1) h (by omega) (by omega) (by omega)) ((mi 1 11).toNat + 1) m 0 0 hI0 rfl (by omega) (by omega)
theorem s_X6_fitsAlone {mr : aR} (hR : Rok mr) {mi : aM} {a : Nat} {s : Int} (hd : dP mi mr a 0 s) : SPg yX6_fitsAlone cX6_fitsAlone 10 (some .boolean) 4 [.ref 1, .ref a, iI s] mi mr (Pi mr (fun r m => ((r = 1 ∧ (plL (e0C mi) (dC mi) (outL (fun k => mi (a + 1) k) (mi 1 11).toNat 0 s (mi a 1).toNat 0) []).1 = 0) ∨ (r = 0 ∧ (plL (e0C mi) (dC mi) (outL (fun k => mi (a + 1) k) (mi 1 11).toNat 0 s (mi a 1).toNat 0) []).1 ≠ 0)) ∧ fr13 mi m)) := by
  refine SPg.bool rfl (by decide +kernel) (Nat.le_of_ble_eq_true rfl) (fun r m h => by (rcases h.1 with ⟨h, -⟩ | ⟨h, -⟩ <;> omega)) ?_
  show AWm RX6 cX6_fitsAlone 10 4 _ 0 [(0, .ref 1), (1, .ref a), (2, iI s)] [] mi mr
  refine aw_aload_n (i := 0) (q := 0) dX6_fitsAlone_0 rfl rfl ?_
  refine aw_getR (r := 13) flX6_34 SH_1 (by decide) rfl (rk_1_4 hR) dX6_fitsAlone_1 ?_
  refine aw_iconst dX6_fitsAlone_4 ?_
  refine aw_putIk 4 flX6_152 SH_13 (by decide) rfl rfl rfl (by decide) dX6_fitsAlone_5 ?_
  refine aw_iconst dX6_fitsAlone_8 ?_
  refine aw_istore_n (i := 3) (lv' := [(0, .ref 1), (1, .ref a), (2, iI s), (3, iI 0)]) [1, 2, 3, 0] dX6_fitsAlone_9 rfl (by decide) rfl ?_
  have hI : alI mi (aup mi 13 4 0) (outL (fun k => mi (a + 1) k) (mi 1 11).toNat 0 s (mi a 1).toNat 0) (outL (fun k => mi (a + 1) k) (mi 1 11).toNat 0 s ((mi a 1).toNat - 0) 0) := by
    have e0 : (aup mi 13 4 0) 13 4 = 0 := by simp [aup]
    have eL : sL (aup mi 13 4 0) 13 = [] := by unfold sL; rw [e0]; rfl
    refine ⟨by rw [eL]; rfl, ⟨by rw [e0]; decide, fun i i0 i1 => by rw [e0] at i1; omega, fun i j i0 i1 i2 => by rw [e0] at i2; omega⟩, fun x j hx => aup_a (by omega)⟩
  exact l_alone1 hR hd ((mi a 1).toNat + 1) _ 0 0 hI rfl ⟨by omega, hd.2.1.1.1⟩ (by have := hd.2.1.1; omega)
