-- part 50: the model: laysShake (printed by wip/whole/gen/p50.py)
def bqM (mi : aM) (b : Int) : bQ := (mi 86 b, mi 89 b, mi 90 b, mi 92 b - mi 62 b)
def fKm (mi : aM) (b : Int) (k : Nat) : Int := fK (mi 61 b) (mi 88 b) (mi 91 b) (mi 62 b) (bqM mi b) (mi 58 9) k
/-- the shake of the first n bells -/
def shM (mi : aM) (k : Nat) : Nat → Int
  | 0 => 0
  | n + 1 => shM mi k n + fKm mi (n : Int) k
theorem tkS_dead {mo ta hf t : Int} {q : bQ} (h : q.1 = 0) : tkS mo ta hf t q = q := by
  unfold tkS
  exact if_neg (fun z => z.1 h)
theorem fut_dead {mo ta hf : Int} {q : bQ} {t0 : Int} {i : Nat} (h : (fut mo ta hf q t0 i).1 = 0) : ∀ k : Nat, i ≤ k → (fut mo ta hf q t0 k).1 = 0
  | 0, hk => by rw [show i = 0 by omega] at h; exact h
  | k + 1, hk => by
    by_cases e : i = k + 1
    · rw [← e]; exact h
    · have ih := fut_dead h k (by omega)
      rw [fut_s, tkS_dead ih]
      exact ih
theorem fKm_dead {mi : aM} {b : Int} {i : Nat} (h : (fut (mi 88 b) (mi 91 b) (mi 62 b) (bqM mi b) (mi 58 9) i).1 = 0) {k : Nat} (hk : i ≤ k) : fKm mi b k = 0 := by
  unfold fKm fK
  have := fut_dead h (k + 1) (by omega)
  unfold fF
  exact if_pos this
theorem l_shk3 {mr : aR} (hR : Rok mr) {mi : aM} {last b : Int} {n9 : Nat} (hb : 0 ≤ b ∧ b < mi 58 6) (hrg : ∀ k : Nat, -13000 ≤ shM mi k n9 ∧ shM mi k n9 ≤ 13000) (hkr : ∀ k : Nat, -1000 ≤ fKm mi b k ∧ fKm mi b k ≤ 1000) (hB : mB mi) (hW : mW mi) (hS : ∀ i : Int, 0 ≤ i → i < mi 58 6 → mi 90 i = 1 ∨ mi 90 i = -1 ∨ mi 86 i = 0) (hl : 0 ≤ last ∧ last < 720) (kx : ∀ m : aM, (∀ (x : Nat) (j : Int), x ≠ 93 → m x j = mi x j) → (∀ j : Int, 0 ≤ j → j ≤ last → m 93 j = shM mi j.toNat n9 + fKm mi b j.toNat) → AWm RX7 cX7_laysShake 8 2 (Pv mr (fun m => (∀ (x : Nat) (j : Int), x ≠ 93 → m x j = mi x j) ∧ ∀ j : Int, 0 ≤ j → j ≤ last → m 93 j = shM mi j.toNat (mi 58 6).toNat)) 22 [(0, .ref 58), (1, iI last), (2, iI (b + 1))] [] m mr) : ∀ (n : Nat) (m : aM) (sw a sd t6 z lt : Int) (i : Nat), fut (mi 88 b) (mi 91 b) (mi 62 b) (bqM mi b) (mi 58 9) i = (sw, a, sd, lt) → t6 = lt + mi 62 b - mi 58 9 → ((sw = 0 ∨ sw = 1) ∧ (sw ≠ 0 → lt ≤ mi 58 9 + z ∧ mi 58 9 + z ≤ lt + mi 62 b) ∧ (-100 ≤ lt ∧ lt ≤ 210000)) → (0 ≤ a ∧ a ≤ 1000) → (sd = 1 ∨ sd = -1 ∨ sw = 0) → (-1 ≤ sd ∧ sd ≤ 1 ∨ sw = 0) → (∀ (x : Nat) (j : Int), x ≠ 93 → m x j = mi x j) → (∀ j : Int, 0 ≤ j → j < z → m 93 j = shM mi j.toNat n9 + fKm mi b j.toNat) → (∀ j : Int, 0 ≤ j → j ≤ last → z ≤ j → m 93 j = shM mi j.toNat n9) → z = (i : Int) → (0 ≤ z ∧ z ≤ last + 1) → last + 1 - z < n → AWm RX7 cX7_laysShake 8 2 (Pv mr (fun m => (∀ (x : Nat) (j : Int), x ≠ 93 → m x j = mi x j) ∧ ∀ j : Int, 0 ≤ j → j ≤ last → m 93 j = shM mi j.toNat (mi 58 6).toNat)) 69 [(0, .ref 58), (1, iI last), (2, iI b), (3, iI sw), (4, iI a), (5, iI sd), (6, iI t6), (7, iI z)] [] m mr := by
  intro n
  induction n with
  | zero => intro m sw a sd t6 z lt i hft ht6 hwin ha hsd hsd2 hfr hdn hup hz h2 h3; omega
  | succ n ih =>
    intro m sw a sd t6 z lt i hft ht6 hwin ha hsd hsd2 hfr hdn hup hz h2 h3
    obtain ⟨k59, k60, k61, k62, k63, k86, k87, k88⟩ := hB.2.2 b hb.1 hb.2
    obtain ⟨q1, q2, q3, q4, q5⟩ := hW b hb.1 hb.2
    have hn := hB.1
    have hnw := hB.2.1
    have f61 : m 61 b = mi 61 b := hfr 61 b (by decide)
    have f62 : m 62 b = mi 62 b := hfr 62 b (by decide)
    have f88 : m 88 b = mi 88 b := hfr 88 b (by decide)
    have f91 : m 91 b = mi 91 b := hfr 91 b (by decide)
    have hr9 := hrg i
    refine aw_iload (i := 7) (q := 7) dX7_laysShake_69 rfl ?_
    refine aw_iload_n (i := 1) (q := 1) dX7_laysShake_71 rfl rfl ?_
    refine aw_icmp_gt (tgt := 182) dX7_laysShake_72 (by decide) (by first | assumption | omega) (by first | assumption | omega) (fun c72 => ?_) (fun c72 => ?_)
    · refine aw_sub (lv' := [(0, .ref 58), (1, iI last), (2, iI b)]) [0, 1, 2] rfl ?_
      refine aw_iinc (i := 2) (q := 2) (x := b) (lv' := [(0, .ref 58), (1, iI last), (2, iI (b + 1))]) [1, 2, 0] dX7_laysShake_182 rfl (by decide) rfl ?_
      refine aw_goto (tgt := 22) dX7_laysShake_185 (by decide) ?_
      refine kx _ hfr (fun j j0 j1 => ?_)
      by_cases e9 : j < z
      · exact hdn j j0 e9
      · rw [hup j j0 j1 (by omega), fKm_dead (i := i) (by rw [hft]; show sw = 0; omega) (by omega)]; omega
    · refine aw_iload_n (i := 3) (q := 3) dX7_laysShake_75 rfl rfl ?_
      refine aw_if_eq (tgt := 182) dX7_laysShake_76 (by decide) (by first | assumption | omega) (fun c76 => ?_) (fun c76 => ?_)
      · refine aw_sub (lv' := [(0, .ref 58), (1, iI last), (2, iI b)]) [0, 1, 2] rfl ?_
        refine aw_iinc (i := 2) (q := 2) (x := b) (lv' := [(0, .ref 58), (1, iI last), (2, iI (b + 1))]) [1, 2, 0] dX7_laysShake_182 rfl (by decide) rfl ?_
        refine aw_goto (tgt := 22) dX7_laysShake_185 (by decide) ?_
        refine kx _ hfr (fun j j0 j1 => ?_)
        by_cases e9 : j < z
        · exact hdn j j0 e9
        · rw [hup j j0 j1 (by omega), fKm_dead (i := i) (by rw [hft]; show sw = 0; omega) (by omega)]; omega
      · refine aw_iload (i := 7) (q := 7) dX7_laysShake_79 rfl ?_
        refine aw_iload (i := 6) (q := 6) dX7_laysShake_81 rfl ?_
        refine aw_icmp_ne (tgt := 141) dX7_laysShake_83 (by decide) (by first | assumption | omega) (by first | assumption | omega) (fun c83 => ?_) (fun c83 => ?_)
        · refine aw_iload_n (i := 3) (q := 3) dX7_laysShake_141 rfl rfl ?_
          refine aw_if_eq (tgt := 176) dX7_laysShake_142 (by decide) (by first | assumption | omega) (fun c142 => ?_) (fun c142 => ?_)
          · refine aw_iinc (i := 7) (q := 7) (x := z) (lv' := [(0, .ref 58), (1, iI last), (2, iI b), (3, iI sw), (4, iI a), (5, iI sd), (6, iI t6), (7, iI (z + 1))]) [1, 2, 3, 4, 5, 6, 7, 0] dX7_laysShake_176 rfl (by decide) rfl ?_
            refine aw_goto (tgt := 69) dX7_laysShake_179 (by decide) ?_
            have hfs : fut (mi 88 b) (mi 91 b) (mi 62 b) (bqM mi b) (mi 58 9) (i + 1) = (sw, a, sd, lt) := by rw [fut_s, hft, tkS_no (by omega)]
            exact ih _ (sw) (a) (sd) (t6) (z + 1) lt (i + 1) hfs (by omega) (by omega) (by omega) (by omega) (by omega) hfr (fun j j0 j1 => by by_cases e9 : j = z; (subst e9; rw [hup j j0 (by omega) (Int.le_refl _), show j.toNat = i by omega, (show fKm mi b i = 0 by unfold fKm fK; rw [hfs]; exact if_pos (by show (sw : Int) = 0; omega))]; omega); (exact hdn j j0 (by omega))) (fun j j0 j1 j2 => hup j j0 j1 (by omega)) (by omega) (by omega) (by omega)
          · refine aw_aload_n (i := 0) (q := 0) dX7_laysShake_145 rfl rfl ?_
            refine aw_getR (r := 93) flX7_120 SH_58 (by decide) rfl (rk_58_51 hR) dX7_laysShake_146 ?_
            have hup9 := hup z (by omega) (by omega) (Int.le_refl _)
            rw [show z.toNat = i by omega] at hup9
            refine aw_iload (i := 7) (q := 7) dX7_laysShake_149 rfl ?_
            refine aw_dup2 dX7_laysShake_151 rfl rfl ?_
            refine aw_ialdv (x := m 93 z) SH_93 (by decide) ⟨by omega, by omega⟩ rfl dX7_laysShake_152 (fun r152 => ?_)
            refine aw_aload_n (i := 0) (q := 0) dX7_laysShake_153 rfl rfl ?_
            refine aw_iload_n (i := 2) (q := 2) dX7_laysShake_154 rfl rfl ?_
            refine aw_iload (i := 5) (q := 5) dX7_laysShake_155 rfl ?_
            refine aw_iload (i := 4) (q := 4) dX7_laysShake_157 rfl ?_
            refine aw_iload (i := 7) (q := 7) dX7_laysShake_159 rfl ?_
            refine aw_iload (i := 6) (q := 6) dX7_laysShake_161 rfl ?_
            refine aw_isub dX7_laysShake_163 ?_
            refine aw_aload_n (i := 0) (q := 0) dX7_laysShake_164 rfl rfl ?_
            refine aw_getR (r := 62) flX7_23 SH_58 (by decide) rfl (rk_58_4 hR) dX7_laysShake_165 ?_
            refine aw_iload_n (i := 2) (q := 2) dX7_laysShake_168 rfl rfl ?_
            refine aw_ialdv (x := m 62 b) SH_62 (by decide) ⟨by omega, by omega⟩ rfl dX7_laysShake_169 (fun r169 => ?_)
            refine aw_iadd dX7_laysShake_170 ?_
            refine aw_cVp (As := [iI b, iI sd, iI a, iI ((z - t6) + (m 62 b))]) (st := [iI (m 93 z), iI z, .ref 93]) clX7_313 (s_X7_forceBy (mi := m) hR (by omega) (by omega) (by omega) (by omega) (by omega) (by omega)) SH_58 rfl (by decide) rfl rfl (Nat.le_of_ble_eq_true rfl) (by decide) (by decide) (Nat.le_refl _) (Nat.le_refl _) dX7_laysShake_171 (fun v171 hv171 => ?_)
            obtain ⟨hv171, hv171r⟩ := hv171
            rw [f61, f62] at hv171
            refine aw_iadd dX7_laysShake_174 ?_
            refine aw_iast SH_93 (by decide) ⟨by omega, by omega⟩ (by first | assumption | omega) dX7_laysShake_175 ?_
            refine aw_iinc (i := 7) (q := 7) (x := z) (lv' := [(0, .ref 58), (1, iI last), (2, iI b), (3, iI sw), (4, iI a), (5, iI sd), (6, iI t6), (7, iI (z + 1))]) [1, 2, 3, 4, 5, 6, 7, 0] dX7_laysShake_176 rfl (by decide) rfl ?_
            refine aw_goto (tgt := 69) dX7_laysShake_179 (by decide) ?_
            have hfs : fut (mi 88 b) (mi 91 b) (mi 62 b) (bqM mi b) (mi 58 9) (i + 1) = (sw, a, sd, lt) := by rw [fut_s, hft, tkS_no (by omega)]
            have hvf : v171 = fKm mi b i := by
              unfold fKm fK
              rw [hfs, fF_v (by omega), hv171]
              congr 1
              omega
            exact ih _ (sw) (a) (sd) (t6) (z + 1) lt (i + 1) hfs (by omega) (by omega) (by omega) (by omega) (by omega) (fun x j hx => by rw [aup_a hx]; exact hfr x j hx) (fun j j0 j1 => by by_cases e9 : j = z; (subst e9; rw [aup_eq, hup j j0 (by omega) (Int.le_refl _), hvf, show j.toNat = i by omega]); (rw [aup_k e9]; exact hdn j j0 (by omega))) (fun j j0 j1 j2 => by rw [aup_k (by omega)]; exact hup j j0 j1 (by omega)) (by omega) (by omega) (by omega)
        · refine aw_iload (i := 5) (q := 5) dX7_laysShake_86 rfl ?_
          refine aw_ineg dX7_laysShake_88 ?_
          refine aw_istore (i := 5) (lv' := [(0, .ref 58), (1, iI last), (2, iI b), (3, iI sw), (4, iI a), (5, iI (-sd)), (6, iI t6), (7, iI z)]) [1, 2, 3, 4, 5, 0, 6, 7] dX7_laysShake_89 (by decide) rfl ?_
          refine aw_iload (i := 4) (q := 4) dX7_laysShake_91 rfl ?_
          refine aw_aload_n (i := 0) (q := 0) dX7_laysShake_93 rfl rfl ?_
          refine aw_getR (r := 88) flX7_105 SH_58 (by decide) rfl (rk_58_46 hR) dX7_laysShake_94 ?_
          refine aw_iload_n (i := 2) (q := 2) dX7_laysShake_97 rfl rfl ?_
          refine aw_zaldv (x := m 88 b) SH_88 (by decide) ⟨by omega, by omega⟩ rfl dX7_laysShake_98 (fun r98 => ?_)
          refine aw_aload_n (i := 0) (q := 0) dX7_laysShake_99 rfl rfl ?_
          refine aw_getR (r := 91) flX7_114 SH_58 (by decide) rfl (rk_58_49 hR) dX7_laysShake_100 ?_
          refine aw_iload_n (i := 2) (q := 2) dX7_laysShake_103 rfl rfl ?_
          refine aw_ialdv (x := m 91 b) SH_91 (by decide) ⟨by omega, by omega⟩ rfl dX7_laysShake_104 (fun r104 => ?_)
          refine aw_cSp (As := [iI a, iI (m 88 b), iI (m 91 b)]) (st := []) clX7_294 (s_X7_turned hR (by omega) (by omega) (by omega)) rfl rfl (Nat.le_of_ble_eq_true rfl) (by decide) (by decide) (Nat.le_refl _) (Nat.le_refl _) dX7_laysShake_105 (fun v105 hv105 => ?_)
          rw [f88, f91] at hv105
          have htr := trn_rng (motor := mi 88 b) (amp := a) (aim := mi 91 b) ha q3
          rw [← hv105] at htr
          refine aw_istore (i := 4) (lv' := [(0, .ref 58), (1, iI last), (2, iI b), (3, iI sw), (4, iI v105), (5, iI (-sd)), (6, iI t6), (7, iI z)]) [1, 2, 3, 4, 0, 5, 6, 7] dX7_laysShake_108 (by decide) rfl ?_
          refine aw_iload (i := 4) (q := 4) dX7_laysShake_110 rfl ?_
          refine aw_if_gt (tgt := 124) dX7_laysShake_112 (by decide) (by first | assumption | omega) (fun c112 => ?_) (fun c112 => ?_)
          · refine aw_iconst dX7_laysShake_124 ?_
            refine aw_goto (tgt := 129) dX7_laysShake_125 (by decide) ?_
            refine aw_istore_n (i := 3) (lv' := [(0, .ref 58), (1, iI last), (2, iI b), (3, iI 1), (4, iI v105), (5, iI (-sd)), (6, iI t6), (7, iI z)]) [1, 2, 3, 0, 4, 5, 6, 7] dX7_laysShake_129 rfl (by decide) rfl ?_
            refine aw_iload (i := 6) (q := 6) dX7_laysShake_130 rfl ?_
            refine aw_aload_n (i := 0) (q := 0) dX7_laysShake_132 rfl rfl ?_
            refine aw_getR (r := 62) flX7_23 SH_58 (by decide) rfl (rk_58_4 hR) dX7_laysShake_133 ?_
            refine aw_iload_n (i := 2) (q := 2) dX7_laysShake_136 rfl rfl ?_
            refine aw_ialdv (x := m 62 b) SH_62 (by decide) ⟨by omega, by omega⟩ rfl dX7_laysShake_137 (fun r137 => ?_)
            refine aw_iadd dX7_laysShake_138 ?_
            refine aw_istore (i := 6) (lv' := [(0, .ref 58), (1, iI last), (2, iI b), (3, iI 1), (4, iI v105), (5, iI (-sd)), (6, iI (t6 + (m 62 b))), (7, iI z)]) [1, 2, 3, 4, 5, 6, 0, 7] dX7_laysShake_139 (by decide) rfl ?_
            refine aw_iload_n (i := 3) (q := 3) dX7_laysShake_141 rfl rfl ?_
            refine aw_if_eq (tgt := 176) dX7_laysShake_142 (by decide) (by decide) (fun c142 => ?_) (fun c142 => ?_)
            · exact absurd c142 (by decide)
            · refine aw_aload_n (i := 0) (q := 0) dX7_laysShake_145 rfl rfl ?_
              refine aw_getR (r := 93) flX7_120 SH_58 (by decide) rfl (rk_58_51 hR) dX7_laysShake_146 ?_
              have hup9 := hup z (by omega) (by omega) (Int.le_refl _)
              rw [show z.toNat = i by omega] at hup9
              refine aw_iload (i := 7) (q := 7) dX7_laysShake_149 rfl ?_
              refine aw_dup2 dX7_laysShake_151 rfl rfl ?_
              refine aw_ialdv (x := m 93 z) SH_93 (by decide) ⟨by omega, by omega⟩ rfl dX7_laysShake_152 (fun r152 => ?_)
              refine aw_aload_n (i := 0) (q := 0) dX7_laysShake_153 rfl rfl ?_
              refine aw_iload_n (i := 2) (q := 2) dX7_laysShake_154 rfl rfl ?_
              refine aw_iload (i := 5) (q := 5) dX7_laysShake_155 rfl ?_
              refine aw_iload (i := 4) (q := 4) dX7_laysShake_157 rfl ?_
              refine aw_iload (i := 7) (q := 7) dX7_laysShake_159 rfl ?_
              refine aw_iload (i := 6) (q := 6) dX7_laysShake_161 rfl ?_
              refine aw_isub dX7_laysShake_163 ?_
              refine aw_aload_n (i := 0) (q := 0) dX7_laysShake_164 rfl rfl ?_
              refine aw_getR (r := 62) flX7_23 SH_58 (by decide) rfl (rk_58_4 hR) dX7_laysShake_165 ?_
              refine aw_iload_n (i := 2) (q := 2) dX7_laysShake_168 rfl rfl ?_
              refine aw_ialdv (x := m 62 b) SH_62 (by decide) ⟨by omega, by omega⟩ rfl dX7_laysShake_169 (fun r169 => ?_)
              refine aw_iadd dX7_laysShake_170 ?_
              refine aw_cVp (As := [iI b, iI (-sd), iI v105, iI ((z - (t6 + (m 62 b))) + (m 62 b))]) (st := [iI (m 93 z), iI z, .ref 93]) clX7_313 (s_X7_forceBy (mi := m) hR (by omega) (by omega) (by omega) (by omega) (by omega) (by omega)) SH_58 rfl (by decide) rfl rfl (Nat.le_of_ble_eq_true rfl) (by decide) (by decide) (Nat.le_refl _) (Nat.le_refl _) dX7_laysShake_171 (fun v171 hv171 => ?_)
              obtain ⟨hv171, hv171r⟩ := hv171
              rw [f61, f62] at hv171
              refine aw_iadd dX7_laysShake_174 ?_
              refine aw_iast SH_93 (by decide) ⟨by omega, by omega⟩ (by first | assumption | omega) dX7_laysShake_175 ?_
              refine aw_iinc (i := 7) (q := 7) (x := z) (lv' := [(0, .ref 58), (1, iI last), (2, iI b), (3, iI 1), (4, iI v105), (5, iI (-sd)), (6, iI (t6 + (m 62 b))), (7, iI (z + 1))]) [1, 2, 3, 4, 5, 6, 7, 0] dX7_laysShake_176 rfl (by decide) rfl ?_
              refine aw_goto (tgt := 69) dX7_laysShake_179 (by decide) ?_
              have hfs : fut (mi 88 b) (mi 91 b) (mi 62 b) (bqM mi b) (mi 58 9) (i + 1) = (1, v105, -sd, lt + mi 62 b) := by rw [fut_s, hft, tkS_yes (by omega) (by omega), ← hv105]; congr 1; split <;> omega
              have hvf : v171 = fKm mi b i := by
                unfold fKm fK
                rw [hfs, fF_v (by omega), hv171]
                congr 1
                omega
              exact ih _ (1) (v105) (-sd) (t6 + (m 62 b)) (z + 1) (lt + mi 62 b) (i + 1) hfs (by omega) (by omega) (by omega) (by omega) (by omega) (fun x j hx => by rw [aup_a hx]; exact hfr x j hx) (fun j j0 j1 => by by_cases e9 : j = z; (subst e9; rw [aup_eq, hup j j0 (by omega) (Int.le_refl _), hvf, show j.toNat = i by omega]); (rw [aup_k e9]; exact hdn j j0 (by omega))) (fun j j0 j1 j2 => by rw [aup_k (by omega)]; exact hup j j0 j1 (by omega)) (by omega) (by omega) (by omega)
          · refine aw_aload_n (i := 0) (q := 0) dX7_laysShake_115 rfl rfl ?_
            refine aw_getR (r := 88) flX7_105 SH_58 (by decide) rfl (rk_58_46 hR) dX7_laysShake_116 ?_
            refine aw_iload_n (i := 2) (q := 2) dX7_laysShake_119 rfl rfl ?_
            refine aw_zaldv (x := m 88 b) SH_88 (by decide) ⟨by omega, by omega⟩ rfl dX7_laysShake_120 (fun r120 => ?_)
            refine aw_if_eq (tgt := 128) dX7_laysShake_121 (by decide) (by first | assumption | omega) (fun c121 => ?_) (fun c121 => ?_)
            · refine aw_iconst dX7_laysShake_128 ?_
              refine aw_istore_n (i := 3) (lv' := [(0, .ref 58), (1, iI last), (2, iI b), (3, iI 0), (4, iI v105), (5, iI (-sd)), (6, iI t6), (7, iI z)]) [1, 2, 3, 0, 4, 5, 6, 7] dX7_laysShake_129 rfl (by decide) rfl ?_
              refine aw_iload (i := 6) (q := 6) dX7_laysShake_130 rfl ?_
              refine aw_aload_n (i := 0) (q := 0) dX7_laysShake_132 rfl rfl ?_
              refine aw_getR (r := 62) flX7_23 SH_58 (by decide) rfl (rk_58_4 hR) dX7_laysShake_133 ?_
              refine aw_iload_n (i := 2) (q := 2) dX7_laysShake_136 rfl rfl ?_
              refine aw_ialdv (x := m 62 b) SH_62 (by decide) ⟨by omega, by omega⟩ rfl dX7_laysShake_137 (fun r137 => ?_)
              refine aw_iadd dX7_laysShake_138 ?_
              refine aw_istore (i := 6) (lv' := [(0, .ref 58), (1, iI last), (2, iI b), (3, iI 0), (4, iI v105), (5, iI (-sd)), (6, iI (t6 + (m 62 b))), (7, iI z)]) [1, 2, 3, 4, 5, 6, 0, 7] dX7_laysShake_139 (by decide) rfl ?_
              refine aw_iload_n (i := 3) (q := 3) dX7_laysShake_141 rfl rfl ?_
              refine aw_if_eq (tgt := 176) dX7_laysShake_142 (by decide) (by decide) (fun c142 => ?_) (fun c142 => ?_)
              · refine aw_iinc (i := 7) (q := 7) (x := z) (lv' := [(0, .ref 58), (1, iI last), (2, iI b), (3, iI 0), (4, iI v105), (5, iI (-sd)), (6, iI (t6 + (m 62 b))), (7, iI (z + 1))]) [1, 2, 3, 4, 5, 6, 7, 0] dX7_laysShake_176 rfl (by decide) rfl ?_
                refine aw_goto (tgt := 69) dX7_laysShake_179 (by decide) ?_
                have hfs : fut (mi 88 b) (mi 91 b) (mi 62 b) (bqM mi b) (mi 58 9) (i + 1) = (0, v105, -sd, lt + mi 62 b) := by rw [fut_s, hft, tkS_yes (by omega) (by omega), ← hv105]; congr 1; split <;> omega
                exact ih _ (0) (v105) (-sd) (t6 + (m 62 b)) (z + 1) (lt + mi 62 b) (i + 1) hfs (by omega) (by omega) (by omega) (by omega) (by omega) hfr (fun j j0 j1 => by by_cases e9 : j = z; (subst e9; rw [hup j j0 (by omega) (Int.le_refl _), show j.toNat = i by omega, (show fKm mi b i = 0 by unfold fKm fK; rw [hfs]; exact if_pos (by show (0 : Int) = 0; omega))]; omega); (exact hdn j j0 (by omega))) (fun j j0 j1 j2 => hup j j0 j1 (by omega)) (by omega) (by omega) (by omega)
              · exact absurd c142 (by decide)
            · refine aw_iconst dX7_laysShake_124 ?_
              refine aw_goto (tgt := 129) dX7_laysShake_125 (by decide) ?_
              refine aw_istore_n (i := 3) (lv' := [(0, .ref 58), (1, iI last), (2, iI b), (3, iI 1), (4, iI v105), (5, iI (-sd)), (6, iI t6), (7, iI z)]) [1, 2, 3, 0, 4, 5, 6, 7] dX7_laysShake_129 rfl (by decide) rfl ?_
              refine aw_iload (i := 6) (q := 6) dX7_laysShake_130 rfl ?_
              refine aw_aload_n (i := 0) (q := 0) dX7_laysShake_132 rfl rfl ?_
              refine aw_getR (r := 62) flX7_23 SH_58 (by decide) rfl (rk_58_4 hR) dX7_laysShake_133 ?_
              refine aw_iload_n (i := 2) (q := 2) dX7_laysShake_136 rfl rfl ?_
              refine aw_ialdv (x := m 62 b) SH_62 (by decide) ⟨by omega, by omega⟩ rfl dX7_laysShake_137 (fun r137 => ?_)
              refine aw_iadd dX7_laysShake_138 ?_
              refine aw_istore (i := 6) (lv' := [(0, .ref 58), (1, iI last), (2, iI b), (3, iI 1), (4, iI v105), (5, iI (-sd)), (6, iI (t6 + (m 62 b))), (7, iI z)]) [1, 2, 3, 4, 5, 6, 0, 7] dX7_laysShake_139 (by decide) rfl ?_
              refine aw_iload_n (i := 3) (q := 3) dX7_laysShake_141 rfl rfl ?_
              refine aw_if_eq (tgt := 176) dX7_laysShake_142 (by decide) (by decide) (fun c142 => ?_) (fun c142 => ?_)
              · exact absurd c142 (by decide)
              · refine aw_aload_n (i := 0) (q := 0) dX7_laysShake_145 rfl rfl ?_
                refine aw_getR (r := 93) flX7_120 SH_58 (by decide) rfl (rk_58_51 hR) dX7_laysShake_146 ?_
                have hup9 := hup z (by omega) (by omega) (Int.le_refl _)
                rw [show z.toNat = i by omega] at hup9
                refine aw_iload (i := 7) (q := 7) dX7_laysShake_149 rfl ?_
                refine aw_dup2 dX7_laysShake_151 rfl rfl ?_
                refine aw_ialdv (x := m 93 z) SH_93 (by decide) ⟨by omega, by omega⟩ rfl dX7_laysShake_152 (fun r152 => ?_)
                refine aw_aload_n (i := 0) (q := 0) dX7_laysShake_153 rfl rfl ?_
                refine aw_iload_n (i := 2) (q := 2) dX7_laysShake_154 rfl rfl ?_
                refine aw_iload (i := 5) (q := 5) dX7_laysShake_155 rfl ?_
                refine aw_iload (i := 4) (q := 4) dX7_laysShake_157 rfl ?_
                refine aw_iload (i := 7) (q := 7) dX7_laysShake_159 rfl ?_
                refine aw_iload (i := 6) (q := 6) dX7_laysShake_161 rfl ?_
                refine aw_isub dX7_laysShake_163 ?_
                refine aw_aload_n (i := 0) (q := 0) dX7_laysShake_164 rfl rfl ?_
                refine aw_getR (r := 62) flX7_23 SH_58 (by decide) rfl (rk_58_4 hR) dX7_laysShake_165 ?_
                refine aw_iload_n (i := 2) (q := 2) dX7_laysShake_168 rfl rfl ?_
                refine aw_ialdv (x := m 62 b) SH_62 (by decide) ⟨by omega, by omega⟩ rfl dX7_laysShake_169 (fun r169 => ?_)
                refine aw_iadd dX7_laysShake_170 ?_
                refine aw_cVp (As := [iI b, iI (-sd), iI v105, iI ((z - (t6 + (m 62 b))) + (m 62 b))]) (st := [iI (m 93 z), iI z, .ref 93]) clX7_313 (s_X7_forceBy (mi := m) hR (by omega) (by omega) (by omega) (by omega) (by omega) (by omega)) SH_58 rfl (by decide) rfl rfl (Nat.le_of_ble_eq_true rfl) (by decide) (by decide) (Nat.le_refl _) (Nat.le_refl _) dX7_laysShake_171 (fun v171 hv171 => ?_)
                obtain ⟨hv171, hv171r⟩ := hv171
                rw [f61, f62] at hv171
                refine aw_iadd dX7_laysShake_174 ?_
                refine aw_iast SH_93 (by decide) ⟨by omega, by omega⟩ (by first | assumption | omega) dX7_laysShake_175 ?_
                refine aw_iinc (i := 7) (q := 7) (x := z) (lv' := [(0, .ref 58), (1, iI last), (2, iI b), (3, iI 1), (4, iI v105), (5, iI (-sd)), (6, iI (t6 + (m 62 b))), (7, iI (z + 1))]) [1, 2, 3, 4, 5, 6, 7, 0] dX7_laysShake_176 rfl (by decide) rfl ?_
                refine aw_goto (tgt := 69) dX7_laysShake_179 (by decide) ?_
                have hfs : fut (mi 88 b) (mi 91 b) (mi 62 b) (bqM mi b) (mi 58 9) (i + 1) = (1, v105, -sd, lt + mi 62 b) := by rw [fut_s, hft, tkS_yes (by omega) (by omega), ← hv105]; congr 1; split <;> omega
                have hvf : v171 = fKm mi b i := by
                  unfold fKm fK
                  rw [hfs, fF_v (by omega), hv171]
                  congr 1
                  omega
                exact ih _ (1) (v105) (-sd) (t6 + (m 62 b)) (z + 1) (lt + mi 62 b) (i + 1) hfs (by omega) (by omega) (by omega) (by omega) (by omega) (fun x j hx => by rw [aup_a hx]; exact hfr x j hx) (fun j j0 j1 => by by_cases e9 : j = z; (subst e9; rw [aup_eq, hup j j0 (by omega) (Int.le_refl _), hvf, show j.toNat = i by omega]); (rw [aup_k e9]; exact hdn j j0 (by omega))) (fun j j0 j1 j2 => by rw [aup_k (by omega)]; exact hup j j0 j1 (by omega)) (by omega) (by omega) (by omega)
theorem fKm_rng {mi : aM} (hB : mB mi) (hW : mW mi) (hS : ∀ i : Int, 0 ≤ i → i < mi 58 6 → mi 90 i = 1 ∨ mi 90 i = -1 ∨ mi 86 i = 0) {b : Int} (hb : 0 ≤ b ∧ b < mi 58 6) (k : Nat) : -1000 ≤ fKm mi b k ∧ fKm mi b k ≤ 1000 := by
  obtain ⟨k59, k60, k61, k62, k63, k86, k87, k88⟩ := hB.2.2 b hb.1 hb.2
  obtain ⟨q1, q2, q3, q4, q5⟩ := hW b hb.1 hb.2
  by_cases q : mi 86 b = 0
  · rw [fKm_dead (i := 0) q (Nat.zero_le _)]; decide
  · have hs := hS b hb.1 hb.2
    have h5 := q5 q
    exact fK_rng k61 k62 ⟨k86, q1, by show mi 90 b = 1 ∨ mi 90 b = -1; omega⟩ q3 (fun _ => by show mi 92 b - mi 62 b ≤ mi 58 9 ∧ mi 58 9 ≤ mi 92 b - mi 62 b + mi 62 b; omega) k
theorem shM_rng {mi : aM} (hB : mB mi) (hW : mW mi) (hS : ∀ i : Int, 0 ≤ i → i < mi 58 6 → mi 90 i = 1 ∨ mi 90 i = -1 ∨ mi 86 i = 0) (k : Nat) : ∀ n : Nat, (n : Int) ≤ mi 58 6 → -(1000 * (n : Int)) ≤ shM mi k n ∧ shM mi k n ≤ 1000 * (n : Int)
  | 0, _ => by show -(1000 * ((0 : Nat) : Int)) ≤ 0 ∧ (0 : Int) ≤ 1000 * ((0 : Nat) : Int); omega
  | n + 1, h => by
    have e : ((n + 1 : Nat) : Int) = (n : Int) + 1 := rfl
    rw [e] at h ⊢
    have h1 := shM_rng hB hW hS k n (by omega)
    have h2 := fKm_rng hB hW hS (b := (n : Int)) (by omega) k
    show _ ≤ shM mi k n + fKm mi n k ∧ shM mi k n + fKm mi n k ≤ _
    omega
theorem l_shk2 {mr : aR} (hR : Rok mr) {mi : aM} {last : Int} (hB : mB mi) (hW : mW mi) (hS : ∀ i : Int, 0 ≤ i → i < mi 58 6 → mi 90 i = 1 ∨ mi 90 i = -1 ∨ mi 86 i = 0) (hl : 0 ≤ last ∧ last < 720) : ∀ (n : Nat) (m : aM) (b : Int) (i : Nat), (∀ (x : Nat) (j : Int), x ≠ 93 → m x j = mi x j) → (∀ j : Int, 0 ≤ j → j ≤ last → m 93 j = shM mi j.toNat i) → b = (i : Int) → (0 ≤ b ∧ b ≤ mi 58 6) → mi 58 6 - b < n → AWm RX7 cX7_laysShake 8 2 (Pv mr (fun m => (∀ (x : Nat) (j : Int), x ≠ 93 → m x j = mi x j) ∧ ∀ j : Int, 0 ≤ j → j ≤ last → m 93 j = shM mi j.toNat (mi 58 6).toNat)) 22 [(0, .ref 58), (1, iI last), (2, iI b)] [] m mr := by
  intro n
  induction n with
  | zero => intro m b i hfr hsh hbi h2 h3; omega
  | succ n ih =>
    intro m b i hfr hsh hbi h2 h3
    have hn := hB.1
    have hnw := hB.2.1
    have f6 : m 58 6 = mi 58 6 := hfr 58 6 (by decide)
    have f9 : m 58 9 = mi 58 9 := hfr 58 9 (by decide)
    refine aw_iload_n (i := 2) (q := 2) dX7_laysShake_22 rfl rfl ?_
    refine aw_aload_n (i := 0) (q := 0) dX7_laysShake_23 rfl rfl ?_
    refine aw_getIk (x := m 58 6) 6 flX7_132 SH_58 (by decide) rfl rfl rfl dX7_laysShake_24 (fun r24 => ?_)
    refine aw_icmp_ge (tgt := 188) dX7_laysShake_27 (by decide) (by first | assumption | omega) (by first | assumption | omega) (fun c27 => ?_) (fun c27 => ?_)
    · exact aw_vret ⟨rfl, rfl, rfl, (⟨hfr, fun j j0 j1 => by rw [hsh j j0 j1, show i = (mi 58 6).toNat by omega]⟩)⟩ (Nat.le_refl _) (Nat.le_refl _) dX7_laysShake_188
    · obtain ⟨k59, k60, k61, k62, k63, k86, k87, k88⟩ := hB.2.2 b (by omega) (by omega)
      obtain ⟨q1, q2, q3, q4, q5⟩ := hW b (by omega) (by omega)
      have hs9 := hS b (by omega) (by omega)
      refine aw_aload_n (i := 0) (q := 0) dX7_laysShake_30 rfl rfl ?_
      refine aw_getR (r := 86) flX7_99 SH_58 (by decide) rfl (rk_58_44 hR) dX7_laysShake_31 ?_
      refine aw_iload_n (i := 2) (q := 2) dX7_laysShake_34 rfl rfl ?_
      refine aw_zaldv (x := m 86 b) SH_86 (by decide) ⟨by omega, by omega⟩ rfl dX7_laysShake_35 (fun r35 => ?_)
      refine aw_istore_n (i := 3) (lv' := [(0, .ref 58), (1, iI last), (2, iI b), (3, iI (m 86 b))]) [1, 2, 3, 0] dX7_laysShake_36 rfl (by decide) rfl ?_
      refine aw_aload_n (i := 0) (q := 0) dX7_laysShake_37 rfl rfl ?_
      refine aw_getR (r := 89) flX7_108 SH_58 (by decide) rfl (rk_58_47 hR) dX7_laysShake_38 ?_
      refine aw_iload_n (i := 2) (q := 2) dX7_laysShake_41 rfl rfl ?_
      refine aw_ialdv (x := m 89 b) SH_89 (by decide) ⟨by omega, by omega⟩ rfl dX7_laysShake_42 (fun r42 => ?_)
      refine aw_istore (i := 4) (lv' := [(0, .ref 58), (1, iI last), (2, iI b), (3, iI (m 86 b)), (4, iI (m 89 b))]) [1, 2, 3, 4, 0] dX7_laysShake_43 (by decide) rfl ?_
      refine aw_aload_n (i := 0) (q := 0) dX7_laysShake_45 rfl rfl ?_
      refine aw_getR (r := 90) flX7_111 SH_58 (by decide) rfl (rk_58_48 hR) dX7_laysShake_46 ?_
      refine aw_iload_n (i := 2) (q := 2) dX7_laysShake_49 rfl rfl ?_
      refine aw_ialdv (x := m 90 b) SH_90 (by decide) ⟨by omega, by omega⟩ rfl dX7_laysShake_50 (fun r50 => ?_)
      refine aw_istore (i := 5) (lv' := [(0, .ref 58), (1, iI last), (2, iI b), (3, iI (m 86 b)), (4, iI (m 89 b)), (5, iI (m 90 b))]) [1, 2, 3, 4, 5, 0] dX7_laysShake_51 (by decide) rfl ?_
      refine aw_aload_n (i := 0) (q := 0) dX7_laysShake_53 rfl rfl ?_
      refine aw_getR (r := 92) flX7_117 SH_58 (by decide) rfl (rk_58_50 hR) dX7_laysShake_54 ?_
      refine aw_iload_n (i := 2) (q := 2) dX7_laysShake_57 rfl rfl ?_
      refine aw_ialdv (x := m 92 b) SH_92 (by decide) ⟨by omega, by omega⟩ rfl dX7_laysShake_58 (fun r58 => ?_)
      refine aw_aload_n (i := 0) (q := 0) dX7_laysShake_59 rfl rfl ?_
      refine aw_getIk (x := m 58 9) 9 flX7_158 SH_58 (by decide) rfl rfl rfl dX7_laysShake_60 (fun r60 => ?_)
      refine aw_isub dX7_laysShake_63 ?_
      refine aw_istore (i := 6) (lv' := [(0, .ref 58), (1, iI last), (2, iI b), (3, iI (m 86 b)), (4, iI (m 89 b)), (5, iI (m 90 b)), (6, iI ((m 92 b) - (m 58 9)))]) [1, 2, 3, 4, 5, 6, 0] dX7_laysShake_64 (by decide) rfl ?_
      refine aw_iconst dX7_laysShake_66 ?_
      refine aw_istore (i := 7) (lv' := [(0, .ref 58), (1, iI last), (2, iI b), (3, iI (m 86 b)), (4, iI (m 89 b)), (5, iI (m 90 b)), (6, iI ((m 92 b) - (m 58 9))), (7, iI 0)]) [1, 2, 3, 4, 5, 6, 7, 0] dX7_laysShake_67 (by decide) rfl ?_
      have e86 : m 86 b = mi 86 b := hfr 86 b (by decide)
      have e89 : m 89 b = mi 89 b := hfr 89 b (by decide)
      have e90 : m 90 b = mi 90 b := hfr 90 b (by decide)
      have e92 : m 92 b = mi 92 b := hfr 92 b (by decide)
      exact l_shk3 hR (n9 := i) ⟨by omega, by omega⟩ (fun k => by have := shM_rng hB hW hS k i (by omega); omega) (fun k => fKm_rng hB hW hS ⟨by omega, by omega⟩ k) hB hW hS hl (fun m h1 h2 => ih m (b + 1) (i + 1) h1 (fun j j0 j1 => by rw [h2 j j0 j1, hbi]; rfl) (by omega) (by omega) (by omega)) ((last + 1).toNat + 1) m (m 86 b) (m 89 b) (m 90 b) (m 92 b - m 58 9) 0 (mi 92 b - mi 62 b) 0 (by rw [e86, e89, e90]; rfl) (by rw [e92, f9]; omega) (by rw [e86]; omega) (by rw [e89]; exact q1) (by rw [e90, e86]; exact hs9) (by rw [e90, e86]; omega) hfr (fun j j0 j1 => by omega) (fun j j0 j1 _ => hsh j j0 j1) rfl (by omega) (by omega)
theorem l_shk1 {mr : aR} (hR : Rok mr) {mi : aM} {last : Int} (hB : mB mi) (hW : mW mi) (hS : ∀ i : Int, 0 ≤ i → i < mi 58 6 → mi 90 i = 1 ∨ mi 90 i = -1 ∨ mi 86 i = 0) (hl : 0 ≤ last ∧ last < 720) : ∀ (n : Nat) (m : aM) (z : Int), (∀ (x : Nat) (j : Int), x ≠ 93 → m x j = mi x j) → (∀ j : Int, 0 ≤ j → j < z → m 93 j = 0) → (0 ≤ z ∧ z ≤ last + 1) → last + 1 - z < n → AWm RX7 cX7_laysShake 8 2 (Pv mr (fun m => (∀ (x : Nat) (j : Int), x ≠ 93 → m x j = mi x j) ∧ ∀ j : Int, 0 ≤ j → j ≤ last → m 93 j = shM mi j.toNat (mi 58 6).toNat)) 2 [(0, .ref 58), (1, iI last), (2, iI z)] [] m mr := by
  intro n
  induction n with
  | zero => intro m z hfr h0 h2 h3; omega
  | succ n ih =>
    intro m z hfr h0 h2 h3
    have hn := hB.1
    refine aw_iload_n (i := 2) (q := 2) dX7_laysShake_2 rfl rfl ?_
    refine aw_iload_n (i := 1) (q := 1) dX7_laysShake_3 rfl rfl ?_
    refine aw_icmp_gt (tgt := 20) dX7_laysShake_4 (by decide) (by first | assumption | omega) (by first | assumption | omega) (fun c4 => ?_) (fun c4 => ?_)
    · refine aw_iconst dX7_laysShake_20 ?_
      refine aw_istore_n (i := 2) (lv' := [(0, .ref 58), (1, iI last), (2, iI 0)]) [1, 2, 0] dX7_laysShake_21 rfl (by decide) rfl ?_
      exact l_shk2 hR hB hW hS hl ((mi 58 6).toNat + 1) m 0 0 hfr (fun j j0 j1 => h0 j j0 (by omega)) rfl (by omega) (by omega)
    · refine aw_aload_n (i := 0) (q := 0) dX7_laysShake_7 rfl rfl ?_
      refine aw_getR (r := 93) flX7_120 SH_58 (by decide) rfl (rk_58_51 hR) dX7_laysShake_8 ?_
      refine aw_iload_n (i := 2) (q := 2) dX7_laysShake_11 rfl rfl ?_
      refine aw_iconst dX7_laysShake_12 ?_
      refine aw_iast SH_93 (by decide) ⟨by omega, by omega⟩ (by decide) dX7_laysShake_13 ?_
      refine aw_iinc (i := 2) (q := 2) (x := z) (lv' := [(0, .ref 58), (1, iI last), (2, iI (z + 1))]) [1, 2, 0] dX7_laysShake_14 rfl (by decide) rfl ?_
      refine aw_goto (tgt := 2) dX7_laysShake_17 (by decide) ?_
      exact ih _ (z + 1) (fun x j hx => by rw [aup_a hx]; exact hfr x j hx) (fun j j0 j1 => by by_cases e9 : j = z; (subst e9; exact aup_eq _ _ _ _); (rw [aup_k e9]; exact h0 j j0 (by omega))) (by omega) (by omega)
theorem s_X7_laysShake {mr : aR} (hR : Rok mr) {mi : aM} {last : Int} (hB : mB mi) (hW : mW mi) (hS : ∀ i : Int, 0 ≤ i → i < mi 58 6 → mi 90 i = 1 ∨ mi 90 i = -1 ∨ mi 86 i = 0) (hl : 0 ≤ last ∧ last < 720) : SPg yX7_laysShake cX7_laysShake 8 none 2 [.ref 58, iI last] mi mr (Pv mr (fun m => (∀ (x : Nat) (j : Int), x ≠ 93 → m x j = mi x j) ∧ ∀ j : Int, 0 ≤ j → j ≤ last → m 93 j = shM mi j.toNat (mi 58 6).toNat)) := by
  refine SPg.void rfl (by decide +kernel) (Nat.le_of_ble_eq_true rfl) ?_
  show AWm RX7 cX7_laysShake 8 2 _ 0 [(0, .ref 58), (1, iI last)] [] mi mr
  refine aw_iconst dX7_laysShake_0 ?_
  refine aw_istore_n (i := 2) (lv' := [(0, .ref 58), (1, iI last), (2, iI 0)]) [1, 2, 0] dX7_laysShake_1 rfl (by decide) rfl ?_
  exact l_shk1 hR hB hW hS hl ((last + 1).toNat + 1) mi 0 (fun _ _ _ => rfl) (fun j j0 j1 => by omega) (by omega) (by omega)
