-- part 62: the reader of the model: items, groups (printed by wip/whole/gen/p62.py)
theorem m_push {mr : aR} (hR : Rok mr) {mi : aM} {p : Int} {o : List Int} {k : rSt} {D : Nat} (hD : 4 ≤ D) (hE : 0 ≤ mi 58 24 ∧ mi 58 24 ≤ 300) (hw : wfQ (mi 58 24) (p, o, k)) (hq : RQm mi p o) (h27 : mi 58 27 = 0) (hs : sgM mi p = 45 ∨ (97 ≤ sgM mi p ∧ sgM mi p ≤ 108)) {N : Int} (hN : N = itN (sgM mi) (itP (sgM mi) p)) (hno : ¬ ((48 ≤ sgM mi (itP (sgM mi) p) ∧ sgM mi (itP (sgM mi) p) ≤ 57) ∧ (nuV (sgM mi) (itP (sgM mi) p) < 1 ∨ 20 < nuV (sgM mi) (itP (sgM mi) p)))) (hl : (o.length : Int) + N ≤ 100) (hNr : 1 ≤ N ∧ N ≤ 20) : ∀ (n : Nat) (m : aM) (z : Int), (frT mi m ∧ RQm m (itE (sgM mi) (itP (sgM mi) p)) (o ++ spr (itS (sgM mi) p) z.toNat) ∧ m 58 27 = 0) → (0 ≤ z ∧ z ≤ N) → N - z < n → AWm RX7 cX7_readsItem 6 (D + 1) (Pv mr (fun m => rdI mi (p, o, k) m)) 144 [(0, .ref 58), (1, iI ((k.length : Int))), (2, iI p), (3, iI ((itS (sgM mi) p))), (4, iI N), (5, iI z)] [] m mr := by
  intro n
  induction n with
  | zero => intro m z hI h2 h3; omega
  | succ n ih =>
    intro m z hI h2 h3
    have h9 := hI.2.1.2.1
    rw [List.length_append, spr_len] at h9
    have hSr := itS_rng (s := sgM mi) (p := p)
    have hpl := sgM_lt (m := mi) (p := p) (by omega)
    refine aw_iload (i := 5) (q := 5) dX7_readsItem_144 rfl ?_
    refine aw_iload (i := 4) (q := 4) dX7_readsItem_146 rfl ?_
    refine aw_icmp_ge (tgt := 193) dX7_readsItem_148 (by decide) (by first | assumption | omega) (by first | assumption | omega) (fun c148 => ?_) (fun c148 => ?_)
    · have hr4 : ¬ 100 < (o.length : Int) + itN (sgM mi) (itP (sgM mi) p) := by rw [← hN]; omega
      have hok := rs_it (o := o) (k := k) hs hno hr4
      have hwf := wf_step (X := fun j => mi 71 j) (E := mi 58 24) (q := (p, o, k)) hE.2 hw ⟨by show p < mi 58 24; omega, hok⟩
      exact aw_vret ⟨rfl, rfl, rfl, ⟨hI.1, Or.inr ⟨hI.2.2, _, _, hI.2.1, ⟨1, _, ⟨by show p < mi 58 24; omega, hok⟩, (by rw [← hN, show N.toNat = z.toNat by omega]; rfl)⟩, hwf.2⟩⟩⟩ (Nat.le_refl _) (Nat.le_refl _) dX7_readsItem_193
    · refine aw_aload_n (i := 0) (q := 0) dX7_readsItem_151 rfl rfl ?_
      refine aw_getIk (x := 0) 27 flX7_200 SH_58 (by decide) rfl rfl hI.2.2 dX7_readsItem_152 (fun r152 => ?_)
      refine aw_if_ne (tgt := 193) dX7_readsItem_155 (by decide) (by decide) (fun c155 => ?_) (fun c155 => ?_)
      · exact absurd c155 (by decide)
      · refine aw_aload_n (i := 0) (q := 0) dX7_readsItem_158 rfl rfl ?_
        refine aw_getR (r := 74) flX7_60 SH_58 (by decide) rfl (rk_58_22 hR) dX7_readsItem_159 ?_
        refine aw_aload_n (i := 0) (q := 0) dX7_readsItem_162 rfl rfl ?_
        refine aw_getIk (x := m 58 26) 26 flX7_244 SH_58 (by decide) rfl rfl rfl dX7_readsItem_163 (fun r163 => ?_)
        refine aw_iload (i := 5) (q := 5) dX7_readsItem_166 rfl ?_
        refine aw_if_ne (tgt := 175) dX7_readsItem_168 (by decide) (by first | assumption | omega) (fun c168 => ?_) (fun c168 => ?_)
        · refine aw_iconst dX7_readsItem_175 ?_
          refine aw_iast SH_74 (by decide) ⟨by omega, by omega⟩ (by decide) dX7_readsItem_176 ?_
          refine aw_aload_n (i := 0) (q := 0) dX7_readsItem_177 rfl rfl ?_
          refine aw_dup dX7_readsItem_178 rfl ?_
          refine aw_getIk (x := m 58 26) 26 flX7_244 SH_58 (by decide) rfl rfl (by (rw [aup_a (by decide)]) <;> rfl) dX7_readsItem_179 (fun r179 => ?_)
          refine aw_iconst dX7_readsItem_182 ?_
          refine aw_iadd dX7_readsItem_183 ?_
          refine aw_putIk 26 flX7_244 SH_58 (by decide) rfl rfl rfl (by first | assumption | omega) dX7_readsItem_184 ?_
          refine aw_iinc (i := 5) (q := 5) (x := z) (lv' := [(0, .ref 58), (1, iI ((k.length : Int))), (2, iI p), (3, iI ((itS (sgM mi) p))), (4, iI N), (5, iI (z + 1))]) [1, 2, 3, 4, 5, 0] dX7_readsItem_187 rfl (by decide) rfl ?_
          refine aw_goto (tgt := 144) dX7_readsItem_190 (by decide) ?_
          exact ih _ (z + 1) ⟨frT_k (by decide) (frT_a hI.1), by rw [show (z + 1).toNat = z.toNat + 1 by omega, spr_snoc, ← List.append_assoc, if_neg (by omega)]; exact RQm_push hI.2.1, by rw [aup_k (by decide), aup_a (by decide)]; exact hI.2.2⟩ (by omega) (by omega)
        · refine aw_iload_n (i := 3) (q := 3) dX7_readsItem_171 rfl rfl ?_
          refine aw_goto (tgt := 176) dX7_readsItem_172 (by decide) ?_
          refine aw_iast SH_74 (by decide) ⟨by omega, by omega⟩ (by first | assumption | omega) dX7_readsItem_176 ?_
          refine aw_aload_n (i := 0) (q := 0) dX7_readsItem_177 rfl rfl ?_
          refine aw_dup dX7_readsItem_178 rfl ?_
          refine aw_getIk (x := m 58 26) 26 flX7_244 SH_58 (by decide) rfl rfl (by (rw [aup_a (by decide)]) <;> rfl) dX7_readsItem_179 (fun r179 => ?_)
          refine aw_iconst dX7_readsItem_182 ?_
          refine aw_iadd dX7_readsItem_183 ?_
          refine aw_putIk 26 flX7_244 SH_58 (by decide) rfl rfl rfl (by first | assumption | omega) dX7_readsItem_184 ?_
          refine aw_iinc (i := 5) (q := 5) (x := z) (lv' := [(0, .ref 58), (1, iI ((k.length : Int))), (2, iI p), (3, iI ((itS (sgM mi) p))), (4, iI N), (5, iI (z + 1))]) [1, 2, 3, 4, 5, 0] dX7_readsItem_187 rfl (by decide) rfl ?_
          refine aw_goto (tgt := 144) dX7_readsItem_190 (by decide) ?_
          exact ih _ (z + 1) ⟨frT_k (by decide) (frT_a hI.1), by rw [show (z + 1).toNat = z.toNat + 1 by omega, spr_snoc, ← List.append_assoc, if_pos (by omega)]; exact RQm_push hI.2.1, by rw [aup_k (by decide), aup_a (by decide)]; exact hI.2.2⟩ (by omega) (by omega)
theorem m_rs3 {mr : aR} (hR : Rok mr) {mi : aM} {p : Int} {o : List Int} {k : rSt} {D : Nat} (hD : 4 ≤ D) (hE : 0 ≤ mi 58 24 ∧ mi 58 24 ≤ 300) (hw : wfQ (mi 58 24) (p, o, k)) (hq : RQm mi p o) (h27 : mi 58 27 = 0) (hs : sgM mi p = 45 ∨ (97 ≤ sgM mi p ∧ sgM mi p ≤ 108)) {N : Int} (hN : N = itN (sgM mi) (itP (sgM mi) p)) (hno : ¬ ((48 ≤ sgM mi (itP (sgM mi) p) ∧ sgM mi (itP (sgM mi) p) ≤ 57) ∧ (nuV (sgM mi) (itP (sgM mi) p) < 1 ∨ 20 < nuV (sgM mi) (itP (sgM mi) p)))) (hNr : 1 ≤ N ∧ N ≤ 20) {m : aM} (hm : ∀ (x : Nat) (j : Int), (x ≠ 58 ∨ j ≠ 25) → m x j = mi x j) (h7 : m 58 25 = itE (sgM mi) (itP (sgM mi) p)) : AWm RX7 cX7_readsItem 6 (D + 1) (Pv mr (fun m => rdI mi (p, o, k) m)) 114 [(0, .ref 58), (1, iI ((k.length : Int))), (2, iI p), (3, iI ((itS (sgM mi) p)))] [iI N] m mr := by
  have hfr : frT mi m := fun x j _ b => hm x j (by omega)
  have hm4 : m 58 27 = 0 := (hm _ _ (Or.inr (by decide))).trans h27
  have hl3 : m 58 26 = (o.length : Int) := (hm _ _ (Or.inr (by decide))).trans hq.2.1
  have ho : o.length ≤ 100 := hw.2.2.1
  have hpl := sgM_lt (m := mi) (p := p) (by omega)
  refine aw_istore (i := 4) (lv' := [(0, .ref 58), (1, iI ((k.length : Int))), (2, iI p), (3, iI ((itS (sgM mi) p))), (4, iI N)]) [1, 2, 3, 4, 0] dX7_readsItem_114 (by decide) rfl ?_
  refine aw_aload_n (i := 0) (q := 0) dX7_readsItem_116 rfl rfl ?_
  refine aw_getIk (x := 0) 27 flX7_200 SH_58 (by decide) rfl rfl hm4 dX7_readsItem_117 (fun r117 => ?_)
  refine aw_if_ne (tgt := 141) dX7_readsItem_120 (by decide) (by decide) (fun c120 => ?_) (fun c120 => ?_)
  · exact absurd c120 (by decide)
  · refine aw_aload_n (i := 0) (q := 0) dX7_readsItem_123 rfl rfl ?_
    refine aw_getIk (x := m 58 26) 26 flX7_244 SH_58 (by decide) rfl rfl rfl dX7_readsItem_124 (fun r124 => ?_)
    refine aw_iload (i := 4) (q := 4) dX7_readsItem_127 rfl ?_
    refine aw_iadd dX7_readsItem_129 ?_
    refine aw_bipush (x := 100) dX7_readsItem_130 rfl ?_
    refine aw_icmp_le (tgt := 141) dX7_readsItem_132 (by decide) (by first | assumption | omega) (by decide) (fun c132 => ?_) (fun c132 => ?_)
    · refine aw_iconst dX7_readsItem_141 ?_
      refine aw_istore (i := 5) (lv' := [(0, .ref 58), (1, iI ((k.length : Int))), (2, iI p), (3, iI ((itS (sgM mi) p))), (4, iI N), (5, iI 0)]) [1, 2, 3, 4, 5, 0] dX7_readsItem_142 (by decide) rfl ?_
      exact m_push hR hD hE hw hq h27 hs hN hno (by omega) hNr (N.toNat + 1) m 0 ⟨hfr, ⟨h7, by rw [show spr (itS (sgM mi) p) (0 : Int).toNat = [] from rfl, List.append_nil]; exact (hm _ _ (Or.inr (by decide))).trans hq.2.1, by rw [show spr (itS (sgM mi) p) (0 : Int).toNat = [] from rfl, List.append_nil]; exact AR_congr hq.2.2 (fun j => hm _ _ (Or.inl (by decide)))⟩, hm4⟩ (by omega) (by omega)
    · refine aw_aload_n (i := 0) (q := 0) dX7_readsItem_135 rfl rfl ?_
      refine aw_iconst dX7_readsItem_136 ?_
      refine aw_iload_n (i := 2) (q := 2) dX7_readsItem_137 rfl rfl ?_
      refine aw_cVv (As := [iI 4, iI p]) (st := []) clX7_227 (s_fails0 hR (by decide) (by omega) hm4) SH_58 rfl (by decide) rfl rfl (Nat.le_of_ble_eq_true rfl) (by omega) (by decide) (Nat.le_refl _) (Nat.le_refl _) dX7_readsItem_138 (fun m9 hm9 => ?_)
      subst hm9
      refine aw_iconst dX7_readsItem_141 ?_
      refine aw_istore (i := 5) (lv' := [(0, .ref 58), (1, iI ((k.length : Int))), (2, iI p), (3, iI ((itS (sgM mi) p))), (4, iI N), (5, iI 0)]) [1, 2, 3, 4, 5, 0] dX7_readsItem_142 (by decide) rfl ?_
      refine aw_iload (i := 5) (q := 5) dX7_readsItem_144 rfl ?_
      refine aw_iload (i := 4) (q := 4) dX7_readsItem_146 rfl ?_
      refine aw_icmp_ge (tgt := 193) dX7_readsItem_148 (by decide) (by decide) (by first | assumption | omega) (fun c148 => ?_) (fun c148 => ?_)
      · exact aw_vret ⟨rfl, rfl, rfl, ⟨frT_k (by decide) (frT_k (by decide) hfr), Or.inl ⟨by rw [aup_k (by decide), aup_eq]; decide, [], by rw [aup_k (by decide), aup_eq, aup_eq]; exact Fin9_er (by show p < mi 58 24; omega) (by decide) (rs_it4 hs hno (by rw [← hN]; omega))⟩⟩⟩ (Nat.le_refl _) (Nat.le_refl _) dX7_readsItem_193
      · refine aw_aload_n (i := 0) (q := 0) dX7_readsItem_151 rfl rfl ?_
        refine aw_getIk (x := 4) 27 flX7_200 SH_58 (by decide) rfl rfl (by (rw [aup_k (by decide), aup_eq]) <;> rfl) dX7_readsItem_152 (fun r152 => ?_)
        refine aw_if_ne (tgt := 193) dX7_readsItem_155 (by decide) (by decide) (fun c155 => ?_) (fun c155 => ?_)
        · exact aw_vret ⟨rfl, rfl, rfl, ⟨frT_k (by decide) (frT_k (by decide) hfr), Or.inl ⟨by rw [aup_k (by decide), aup_eq]; decide, [], by rw [aup_k (by decide), aup_eq, aup_eq]; exact Fin9_er (by show p < mi 58 24; omega) (by decide) (rs_it4 hs hno (by rw [← hN]; omega))⟩⟩⟩ (Nat.le_refl _) (Nat.le_refl _) dX7_readsItem_193
        · exact absurd c155 (by decide)
theorem m_rs2 {mr : aR} (hR : Rok mr) {mi : aM} {p : Int} {o : List Int} {k : rSt} {D : Nat} (hD : 4 ≤ D) (hE : 0 ≤ mi 58 24 ∧ mi 58 24 ≤ 300) (hw : wfQ (mi 58 24) (p, o, k)) (hq : RQm mi p o) (h27 : mi 58 27 = 0) (hs : sgM mi p = 45 ∨ (97 ≤ sgM mi p ∧ sgM mi p ≤ 108)) {m : aM} (hm : ∀ (x : Nat) (j : Int), (x ≠ 58 ∨ j ≠ 25) → m x j = mi x j) {P : Int} (hP : P = itP (sgM mi) p) (h7 : m 58 25 = P) : AWm RX7 cX7_readsItem 6 (D + 1) (Pv mr (fun m => rdI mi (p, o, k) m)) 92 [(0, .ref 58), (1, iI ((k.length : Int))), (2, iI p), (3, iI ((itS (sgM mi) p)))] [] m mr := by
  have hfr : frT mi m := fun x j _ b => hm x j (by omega)
  have hm4 : m 58 27 = 0 := (hm _ _ (Or.inr (by decide))).trans h27
  have hpl := sgM_lt (m := mi) (p := p) (by omega)
  have hit := itP_rng (X := fun j => mi 71 j) (E := mi 58 24) (p := p) hE.2 hs
  have hPr : p < P ∧ P ≤ mi 58 24 := by rw [hP]; exact ⟨hit.1, hit.2.1⟩
  refine aw_aload_n (i := 0) (q := 0) dX7_readsItem_92 rfl rfl ?_
  refine aw_getIk (x := 0) 27 flX7_200 SH_58 (by decide) rfl rfl hm4 dX7_readsItem_93 (fun r93 => ?_)
  refine aw_if_ne (tgt := 113) dX7_readsItem_96 (by decide) (by decide) (fun c96 => ?_) (fun c96 => ?_)
  · exact absurd c96 (by decide)
  · refine aw_aload_n (i := 0) (q := 0) dX7_readsItem_99 rfl rfl ?_
    refine aw_cVp (As := []) (st := []) clX7_223 (s_X7_isDigit (p := P) hR (by rw [hfr 58 24 (by decide) (by omega)]; exact hE) h7 (by omega)) SH_58 rfl (by decide) rfl rfl (Nat.le_of_ble_eq_true rfl) (by omega) (by decide) (Nat.le_refl _) (Nat.le_refl _) dX7_readsItem_100 (fun v100 hv100 => ?_)
    rw [sgM_fr hfr] at hv100
    refine aw_if_eq (tgt := 113) dX7_readsItem_103 (by decide) (by first | assumption | omega) (fun c103 => ?_) (fun c103 => ?_)
    · refine aw_iconst dX7_readsItem_113 ?_
      have hnd : ¬ (48 ≤ sgM mi P ∧ sgM mi P ≤ 57) := by omega
      exact m_rs3 hR hD hE hw hq h27 hs (by rw [← hP]; unfold itN; rw [if_neg hnd]) (fun z => hnd (by rw [← hP] at z; exact z.1)) (by decide) hm (by rw [h7, ← hP]; unfold itE; rw [if_neg hnd])
    · refine aw_aload_n (i := 0) (q := 0) dX7_readsItem_106 rfl rfl ?_
      refine aw_cVi (As := []) (st := []) clX7_241 (s_X7_number (mi := m) (p := P) hR (by rw [hfr 58 24 (by decide) (by omega)]; exact hE) h7 (by omega) hm4) SH_58 rfl (by decide) rfl rfl (Nat.le_of_ble_eq_true rfl) (by omega) (by decide) (Nat.le_refl _) (Nat.le_refl _) dX7_readsItem_107 (fun v107 m1 hv107 => ?_)
      unfold nuM at hv107
      rw [sgM_fr hfr] at hv107
      have hdg : 48 ≤ sgM mi P ∧ sgM mi P ≤ 57 := by omega
      rcases hv107 with ⟨n0, -⟩ | ⟨-, n1, n2, n3, n4⟩
      · exact absurd hdg n0
      have hvr := nuV_rng (s := sgM mi) (p := P) hdg
      rw [← n1] at hvr
      refine aw_goto (tgt := 114) dX7_readsItem_110 (by decide) ?_
      rcases n4 with ⟨k1, k2, k3, k4⟩ | ⟨k1, k2, k3⟩
      · exact m_rs3 hR hD hE hw hq h27 hs (by rw [← hP]; unfold itN; rw [if_pos hdg]; exact n1) (fun z => by rw [← hP, ← n1] at z; omega) ⟨k1, k2⟩ (m := m1) (fun x j a => by by_cases e4 : x = 58 ∧ (j = 27 ∨ j = 28); (obtain ⟨e5, e6⟩ := e4; subst e5; rcases e6 with rfl | rfl; (exact k3.trans h27.symm); (exact k4.trans (hm _ _ (Or.inr (by decide))))); (rw [n3 x j (by omega)]; exact hm x j a)) (by rw [n2, ← hP]; unfold itE; rw [if_pos hdg])
      · refine aw_istore (i := 4) (lv' := [(0, .ref 58), (1, iI ((k.length : Int))), (2, iI p), (3, iI ((itS (sgM mi) p))), (4, iI v107)]) [1, 2, 3, 4, 0] dX7_readsItem_114 (by decide) rfl ?_
        refine aw_aload_n (i := 0) (q := 0) dX7_readsItem_116 rfl rfl ?_
        refine aw_getIk (x := 2) 27 flX7_200 SH_58 (by decide) rfl rfl k2 dX7_readsItem_117 (fun r117 => ?_)
        refine aw_if_ne (tgt := 141) dX7_readsItem_120 (by decide) (by decide) (fun c120 => ?_) (fun c120 => ?_)
        · refine aw_iconst dX7_readsItem_141 ?_
          refine aw_istore (i := 5) (lv' := [(0, .ref 58), (1, iI ((k.length : Int))), (2, iI p), (3, iI ((itS (sgM mi) p))), (4, iI v107), (5, iI 0)]) [1, 2, 3, 4, 5, 0] dX7_readsItem_142 (by decide) rfl ?_
          refine aw_iload (i := 5) (q := 5) dX7_readsItem_144 rfl ?_
          refine aw_iload (i := 4) (q := 4) dX7_readsItem_146 rfl ?_
          refine aw_icmp_ge (tgt := 193) dX7_readsItem_148 (by decide) (by decide) (by first | assumption | omega) (fun c148 => ?_) (fun c148 => ?_)
          · exact aw_vret ⟨rfl, rfl, rfl, ⟨frT_tr hfr (fun x j _ b => n3 x j (by omega)), Or.inl ⟨by rw [k2]; decide, [], by rw [k2, k3]; exact Fin9_er (by show p < mi 58 24; omega) (by decide) (by rw [hP]; exact rs_it2 hs (by rw [← hP]; exact hdg) (by rw [← hP, ← n1]; exact k1))⟩⟩⟩ (Nat.le_refl _) (Nat.le_refl _) dX7_readsItem_193
          · refine aw_aload_n (i := 0) (q := 0) dX7_readsItem_151 rfl rfl ?_
            refine aw_getIk (x := 2) 27 flX7_200 SH_58 (by decide) rfl rfl k2 dX7_readsItem_152 (fun r152 => ?_)
            refine aw_if_ne (tgt := 193) dX7_readsItem_155 (by decide) (by decide) (fun c155 => ?_) (fun c155 => ?_)
            · exact aw_vret ⟨rfl, rfl, rfl, ⟨frT_tr hfr (fun x j _ b => n3 x j (by omega)), Or.inl ⟨by rw [k2]; decide, [], by rw [k2, k3]; exact Fin9_er (by show p < mi 58 24; omega) (by decide) (by rw [hP]; exact rs_it2 hs (by rw [← hP]; exact hdg) (by rw [← hP, ← n1]; exact k1))⟩⟩⟩ (Nat.le_refl _) (Nat.le_refl _) dX7_readsItem_193
            · exact absurd c155 (by decide)
        · exact absurd c120 (by decide)
