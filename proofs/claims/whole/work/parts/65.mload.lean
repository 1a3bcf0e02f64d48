-- part 65: the model: loadPattern (printed by wip/whole/gen/p65.py)
theorem l_cpl {mr : aR} (hR : Rok mr) {m0 : aM} {w t : Int} {o : List Int} {Po : Option Int → Nat → aM → aR → Prop} (hw : 0 ≤ w ∧ w < 5) (ho : o.length ≤ 100) (hv : ∀ x ∈ o, 0 ≤ x ∧ x < 4096) (h26 : m0 58 26 = (o.length : Int)) (hA : AR m0 74 o) (kx : ∀ m : aM, (∀ (x : Nat) (j : Int), (x ≠ 72 ∨ j < 100 * w ∨ 100 * w + o.length ≤ j) → m x j = m0 x j) → (∀ i : Nat, i < o.length → m 72 (100 * w + i) = o.getD i 0) → Po (some (o.length : Int)) 94 (aup m 73 w (o.length : Int)) mr) : ∀ (n : Nat) (m : aM) (z : Int), (∀ (x : Nat) (j : Int), (x ≠ 72 ∨ j < 100 * w ∨ 100 * w + o.length ≤ j) → m x j = m0 x j) → (∀ i : Nat, (i : Int) < z → m 72 (100 * w + i) = o.getD i 0) → (0 ≤ z ∧ z ≤ o.length) → (o.length : Int) - z < n → AWm RX7 cX7_loadPattern 4 16 Po 122 [(0, .ref 58), (1, iI w), (2, iI t), (3, iI z)] [] m mr := by
  intro n
  induction n with
  | zero => intro m z hfr hc h2 h3; omega
  | succ n ih =>
    intro m z hfr hc h2 h3
    have h26 : m 58 26 = (o.length : Int) := (hfr _ _ (Or.inl (by decide))).trans h26
    refine aw_iload_n (i := 3) (q := 3) dX7_loadPattern_122 rfl rfl ?_
    refine aw_aload_n (i := 0) (q := 0) dX7_loadPattern_123 rfl rfl ?_
    refine aw_getIk (x := (o.length : Int)) 26 flX7_244 SH_58 (by decide) rfl rfl h26 dX7_loadPattern_124 (fun r124 => ?_)
    refine aw_icmp_ge (tgt := 153) dX7_loadPattern_127 (by decide) (by first | assumption | omega) (by first | assumption | omega) (fun c127 => ?_) (fun c127 => ?_)
    · refine aw_aload_n (i := 0) (q := 0) dX7_loadPattern_153 rfl rfl ?_
      refine aw_getR (r := 73) flX7_57 SH_58 (by decide) rfl (rk_58_21 hR) dX7_loadPattern_154 ?_
      refine aw_iload_n (i := 1) (q := 1) dX7_loadPattern_157 rfl rfl ?_
      refine aw_aload_n (i := 0) (q := 0) dX7_loadPattern_158 rfl rfl ?_
      refine aw_getIk (x := (o.length : Int)) 26 flX7_244 SH_58 (by decide) rfl rfl h26 dX7_loadPattern_159 (fun r159 => ?_)
      refine aw_iast SH_73 (by decide) ⟨by omega, by omega⟩ (by first | assumption | omega) dX7_loadPattern_162 ?_
      refine aw_aload_n (i := 0) (q := 0) dX7_loadPattern_163 rfl rfl ?_
      refine aw_getIk (x := (o.length : Int)) 26 flX7_244 SH_58 (by decide) rfl rfl (by rw [aup_a (by decide)]; exact h26) dX7_loadPattern_164 (fun r164 => ?_)
      exact aw_iret (kx m hfr (fun i hi => hc i (by omega))) (Nat.le_refl _) (Nat.le_refl _) dX7_loadPattern_167
    · refine aw_aload_n (i := 0) (q := 0) dX7_loadPattern_130 rfl rfl ?_
      refine aw_getR (r := 72) flX7_54 SH_58 (by decide) rfl (rk_58_20 hR) dX7_loadPattern_131 ?_
      refine aw_bipush (x := 100) dX7_loadPattern_134 rfl ?_
      refine aw_iload_n (i := 1) (q := 1) dX7_loadPattern_136 rfl rfl ?_
      refine aw_imul dX7_loadPattern_137 ?_
      refine aw_iload_n (i := 3) (q := 3) dX7_loadPattern_138 rfl rfl ?_
      refine aw_iadd dX7_loadPattern_139 ?_
      refine aw_aload_n (i := 0) (q := 0) dX7_loadPattern_140 rfl rfl ?_
      refine aw_getR (r := 74) flX7_60 SH_58 (by decide) rfl (rk_58_22 hR) dX7_loadPattern_141 ?_
      refine aw_iload_n (i := 3) (q := 3) dX7_loadPattern_144 rfl rfl ?_
      have hv9 : m 74 z = o.getD z.toNat 0 := by rw [hfr _ _ (Or.inl (by decide)), ← hA z.toNat (by omega), Int.toNat_of_nonneg (by omega)]
      have hr9 := AR_mem hA hv z.toNat (by omega)
      rw [hA z.toNat (by omega), ← hv9] at hr9
      refine aw_ialdv (x := m 74 z) SH_74 (by decide) ⟨by omega, by omega⟩ rfl dX7_loadPattern_145 (fun r145 => ?_)
      refine aw_iast SH_72 (by decide) ⟨by omega, by omega⟩ (by first | assumption | omega) dX7_loadPattern_146 ?_
      refine aw_iinc (i := 3) (q := 3) (x := z) (lv' := [(0, .ref 58), (1, iI w), (2, iI t), (3, iI (z + 1))]) [1, 2, 3, 0] dX7_loadPattern_147 rfl (by decide) rfl ?_
      refine aw_goto (tgt := 122) dX7_loadPattern_150 (by decide) ?_
      exact ih _ (z + 1) (fun x j a => by rw [show ∀ v, aup m 72 (100 * w + z) v x j = m x j from fun v => by rcases a with a | a | a; (exact aup_a a); (exact aup_k (by omega)); (exact aup_k (by omega))]; exact hfr x j a) (fun i hi => by by_cases e9 : (i : Int) = z; (rw [e9, aup_eq, hv9, ← e9, Int.toNat_natCast]); (rw [aup_k (by omega)]; exact hc i (by omega))) (by omega) (by omega)
theorem sgM_5 (mi : aM) (t : Int) : sgM (aup (aup (aup (aup (aup mi 58 24 t) 58 23 0) 58 25 0) 58 26 0) 58 27 0) = (sgF (fun j => mi 71 j) t) := by
  unfold sgM
  congr 1
theorem t_loadPattern {mr : aR} (hR : Rok mr) {mi : aM} {w t : Int} (h_w : -2147483648 ≤ w ∧ w ≤ 2147483647) (h_t : -2147483648 ≤ t ∧ t ≤ 2147483647) (hT : 0 ≤ mi 58 23 ∧ mi 58 23 ≤ 300) : AWm RX7 cX7_loadPattern 4 16 (Pi mr (fun r m => (¬ (0 ≤ w ∧ w < 5) ∧ r = -2 ∧ m = mi) ∨ ((0 ≤ w ∧ w < 5) ∧ ((¬ (0 ≤ t ∧ t ≤ mi 58 23) ∧ r = -3 ∧ m = mi) ∨ ((0 ≤ t ∧ t ≤ mi 58 23) ∧ ∃ (e ep : Int) (o : List Int), Fin9 (sgF (fun j => mi 71 j) t) t (0, [], []) e ep o ∧ m 58 23 = 0 ∧ m 58 29 = e ∧ m 58 30 = ep ∧ ((e ≠ 0 ∧ r = -30 - e ∧ ∀ (x : Nat) (j : Int), x ≠ 74 → (x ≠ 58 ∨ j < 23 ∨ 30 < j) → m x j = mi x j) ∨ (e = 0 ∧ r = (o.length : Int) ∧ (1 ≤ o.length ∧ o.length ≤ 100) ∧ (∀ x ∈ o, 0 ≤ x ∧ x < 4096) ∧ m 73 w = (o.length : Int) ∧ (∀ i : Nat, i < o.length → m 72 (100 * w + i) = o.getD i 0) ∧ ∀ (x : Nat) (j : Int), x ≠ 74 → (x ≠ 58 ∨ j < 23 ∨ 30 < j) → (x ≠ 73 ∨ j ≠ w) → (x ≠ 72 ∨ j < 100 * w ∨ 100 * w + 100 ≤ j) → m x j = mi x j))))))) 5 [(0, .ref 58), (1, iI w), (2, iI t)] [] mi mr := by
  refine aw_iload_n (i := 1) (q := 1) dX7_loadPattern_5 rfl rfl ?_
  refine aw_cSp (As := [iI w]) (st := []) clX7_252 (s_X7_isPattern hR (by omega)) rfl rfl (Nat.le_of_ble_eq_true rfl) (by decide) (by decide) (Nat.le_refl _) (Nat.le_refl _) dX7_loadPattern_6 (fun v6 hv6 => ?_)
  refine aw_if_ne (tgt := 15) dX7_loadPattern_9 (by decide) (by first | assumption | omega) (fun c9 => ?_) (fun c9 => ?_)
  · refine aw_iload_n (i := 2) (q := 2) dX7_loadPattern_15 rfl rfl ?_
    refine aw_i2l dX7_loadPattern_16 (by first | assumption | omega) ?_
    refine aw_lconst (x := 0) dX7_loadPattern_17 rfl ?_
    refine aw_aload_n (i := 0) (q := 0) dX7_loadPattern_18 rfl rfl ?_
    refine aw_getIk (x := mi 58 23) 23 flX7_197 SH_58 (by decide) rfl rfl rfl dX7_loadPattern_19 (fun r19 => ?_)
    refine aw_i2l dX7_loadPattern_22 (by first | assumption | omega) ?_
    refine aw_cSp (As := [lL t, lL 0, lL (mi 58 23)]) (st := []) clX7_135 (s_X7_isIn hR (by omega) (by omega) (by omega)) rfl rfl (Nat.le_of_ble_eq_true rfl) (by decide) (by decide) (Nat.le_refl _) (Nat.le_refl _) dX7_loadPattern_23 (fun v23 hv23 => ?_)
    refine aw_if_ne (tgt := 32) dX7_loadPattern_26 (by decide) (by first | assumption | omega) (fun c26 => ?_) (fun c26 => ?_)
    · refine aw_aload_n (i := 0) (q := 0) dX7_loadPattern_32 rfl rfl ?_
      refine aw_iload_n (i := 2) (q := 2) dX7_loadPattern_33 rfl rfl ?_
      refine aw_putIk 24 flX7_209 SH_58 (by decide) rfl rfl rfl (by first | assumption | omega) dX7_loadPattern_34 ?_
      refine aw_aload_n (i := 0) (q := 0) dX7_loadPattern_37 rfl rfl ?_
      refine aw_iconst dX7_loadPattern_38 ?_
      refine aw_putIk 23 flX7_197 SH_58 (by decide) rfl rfl rfl (by decide) dX7_loadPattern_39 ?_
      refine aw_aload_n (i := 0) (q := 0) dX7_loadPattern_42 rfl rfl ?_
      refine aw_iconst dX7_loadPattern_43 ?_
      refine aw_putIk 25 flX7_206 SH_58 (by decide) rfl rfl rfl (by decide) dX7_loadPattern_44 ?_
      refine aw_aload_n (i := 0) (q := 0) dX7_loadPattern_47 rfl rfl ?_
      refine aw_iconst dX7_loadPattern_48 ?_
      refine aw_putIk 26 flX7_244 SH_58 (by decide) rfl rfl rfl (by decide) dX7_loadPattern_49 ?_
      refine aw_aload_n (i := 0) (q := 0) dX7_loadPattern_52 rfl rfl ?_
      refine aw_iconst dX7_loadPattern_53 ?_
      refine aw_putIk 27 flX7_200 SH_58 (by decide) rfl rfl rfl (by decide) dX7_loadPattern_54 ?_
      refine aw_aload_n (i := 0) (q := 0) dX7_loadPattern_57 rfl rfl ?_
      refine aw_iconst dX7_loadPattern_58 ?_
      refine aw_cVv (As := [iI 0]) (st := []) clX7_247 (its0 mr hR (aup (aup (aup (aup (aup mi 58 24 t) 58 23 0) 58 25 0) 58 26 0) 58 27 0) 0 [] [] (by rw [aup_k (by decide), aup_k (by decide), aup_k (by decide), aup_k (by decide), aup_eq]; omega) ⟨Int.le_refl _, by rw [aup_k (by decide), aup_k (by decide), aup_k (by decide), aup_k (by decide), aup_eq]; show 0 ≤ t; omega, by decide, by decide, (fun x hx => by cases hx), (fun g hg => by cases hg)⟩ ⟨by rw [aup_k (by decide), aup_k (by decide), aup_eq], by rw [aup_k (by decide), aup_eq]; rfl, (fun i hi => by cases hi)⟩ (aup_eq _ _ _ _) rfl 0 rfl) SH_58 rfl (by decide) rfl rfl (Nat.le_of_ble_eq_true rfl) (by decide) (by decide) (Nat.le_refl _) (Nat.le_refl _) dX7_loadPattern_59 (fun m1 hm1 => ?_)
      unfold rdL at hm1
      rw [sgM_5, show (aup (aup (aup (aup (aup mi 58 24 t) 58 23 0) 58 25 0) 58 26 0) 58 27 0) 58 24 = t from rfl] at hm1
      obtain ⟨f1, hcs⟩ := hm1
      have g1 : ∀ (x : Nat) (j : Int), x ≠ 74 → (x ≠ 58 ∨ j < 23 ∨ 28 < j) → m1 x j = mi x j := fun x j a b => by rw [f1 x j a (by omega)]; rcases b with b | b | b; (rw [aup_a b, aup_a b, aup_a b, aup_a b, aup_a b]); (rw [aup_k (by omega), aup_k (by omega), aup_k (by omega), aup_k (by omega), aup_k (by omega)]); (rw [aup_k (by omega), aup_k (by omega), aup_k (by omega), aup_k (by omega), aup_k (by omega)])
      have e23 : m1 58 23 = 0 := by rw [f1 _ _ (by decide) (by omega)]; rfl
      have e24 : m1 58 24 = t := by rw [f1 _ _ (by decide) (by omega)]; rfl
      rcases hcs with ⟨k1, o8, k2⟩ | ⟨k1, p1, o, ⟨j1, j2, j3⟩, ⟨kk, k3⟩, k4⟩
      · refine aw_aload_n (i := 0) (q := 0) dX7_loadPattern_62 rfl rfl ?_
        refine aw_getIk (x := m1 58 26) 26 flX7_244 SH_58 (by decide) rfl rfl rfl dX7_loadPattern_63 (fun r63 => ?_)
        refine aw_if_ne (tgt := 78) dX7_loadPattern_66 (by decide) (by first | assumption | omega) (fun c66 => ?_) (fun c66 => ?_)
        · refine aw_aload_n (i := 0) (q := 0) dX7_loadPattern_78 rfl rfl ?_
          refine aw_aload_n (i := 0) (q := 0) dX7_loadPattern_79 rfl rfl ?_
          refine aw_getIk (x := m1 58 27) 27 flX7_200 SH_58 (by decide) rfl rfl rfl dX7_loadPattern_80 (fun r80 => ?_)
          refine aw_putIk 29 flX7_255 SH_58 (by decide) rfl rfl rfl (by first | assumption | omega) dX7_loadPattern_83 ?_
          refine aw_aload_n (i := 0) (q := 0) dX7_loadPattern_86 rfl rfl ?_
          refine aw_aload_n (i := 0) (q := 0) dX7_loadPattern_87 rfl rfl ?_
          refine aw_getIk (x := m1 58 27) 27 flX7_200 SH_58 (by decide) rfl rfl (by (rw [aup_k (by decide)]) <;> rfl) dX7_loadPattern_88 (fun r88 => ?_)
          refine aw_if_ne (tgt := 98) dX7_loadPattern_91 (by decide) (by first | assumption | omega) (fun c91 => ?_) (fun c91 => ?_)
          · refine aw_aload_n (i := 0) (q := 0) dX7_loadPattern_98 rfl rfl ?_
            refine aw_getIk (x := m1 58 28) 28 flX7_203 SH_58 (by decide) rfl rfl (by (rw [aup_k (by decide)]) <;> rfl) dX7_loadPattern_99 (fun r99 => ?_)
            refine aw_putIk 30 flX7_63 SH_58 (by decide) rfl rfl rfl (by first | assumption | omega) dX7_loadPattern_102 ?_
            refine aw_aload_n (i := 0) (q := 0) dX7_loadPattern_105 rfl rfl ?_
            refine aw_getIk (x := m1 58 27) 27 flX7_200 SH_58 (by decide) rfl rfl (by (rw [aup_k (by decide), aup_k (by decide)]) <;> rfl) dX7_loadPattern_106 (fun r106 => ?_)
            refine aw_if_eq (tgt := 120) dX7_loadPattern_109 (by decide) (by first | assumption | omega) (fun c109 => ?_) (fun c109 => ?_)
            · exact absurd (by assumption) k1
            · refine aw_bipush (x := -30) dX7_loadPattern_112 rfl ?_
              refine aw_aload_n (i := 0) (q := 0) dX7_loadPattern_114 rfl rfl ?_
              refine aw_getIk (x := m1 58 27) 27 flX7_200 SH_58 (by decide) rfl rfl (by (rw [aup_k (by decide), aup_k (by decide)]) <;> rfl) dX7_loadPattern_115 (fun r115 => ?_)
              refine aw_isub dX7_loadPattern_118 ?_
              exact aw_iret ⟨_, rfl, rfl, rfl, Or.inr ⟨⟨by omega, by omega⟩, Or.inr ⟨⟨by omega, by omega⟩, m1 58 27, m1 58 28, o8, k2, by rw [aup_k (by decide), aup_k (by decide)]; exact e23, by rw [aup_k (by decide), aup_eq], aup_eq _ _ _ _, Or.inl ⟨k1, rfl, fun x j a b => by (rcases b with b | b | b) <;> ((first | rw [aup_a b, aup_a b] | rw [aup_k (by omega), aup_k (by omega)]); exact g1 x j a (by omega))⟩⟩⟩⟩ (Nat.le_refl _) (Nat.le_refl _) dX7_loadPattern_119
          · exact absurd (by assumption) k1
        · refine aw_aload_n (i := 0) (q := 0) dX7_loadPattern_69 rfl rfl ?_
          refine aw_iconst dX7_loadPattern_70 ?_
          refine aw_aload_n (i := 0) (q := 0) dX7_loadPattern_71 rfl rfl ?_
          refine aw_getIk (x := t) 24 flX7_209 SH_58 (by decide) rfl rfl e24 dX7_loadPattern_72 (fun r72 => ?_)
          refine aw_cVv (As := [iI 5, iI t]) (st := []) clX7_227 (s_failsN (mi := m1) hR (by decide) (by omega) k1) SH_58 rfl (by decide) rfl rfl (Nat.le_of_ble_eq_true rfl) (by decide) (by decide) (Nat.le_refl _) (Nat.le_refl _) dX7_loadPattern_75 (fun m9 hm9 => ?_)
          rw [hm9]
          refine aw_aload_n (i := 0) (q := 0) dX7_loadPattern_78 rfl rfl ?_
          refine aw_aload_n (i := 0) (q := 0) dX7_loadPattern_79 rfl rfl ?_
          refine aw_getIk (x := m1 58 27) 27 flX7_200 SH_58 (by decide) rfl rfl rfl dX7_loadPattern_80 (fun r80 => ?_)
          refine aw_putIk 29 flX7_255 SH_58 (by decide) rfl rfl rfl (by first | assumption | omega) dX7_loadPattern_83 ?_
          refine aw_aload_n (i := 0) (q := 0) dX7_loadPattern_86 rfl rfl ?_
          refine aw_aload_n (i := 0) (q := 0) dX7_loadPattern_87 rfl rfl ?_
          refine aw_getIk (x := m1 58 27) 27 flX7_200 SH_58 (by decide) rfl rfl (by (rw [aup_k (by decide)]) <;> rfl) dX7_loadPattern_88 (fun r88 => ?_)
          refine aw_if_ne (tgt := 98) dX7_loadPattern_91 (by decide) (by first | assumption | omega) (fun c91 => ?_) (fun c91 => ?_)
          · refine aw_aload_n (i := 0) (q := 0) dX7_loadPattern_98 rfl rfl ?_
            refine aw_getIk (x := m1 58 28) 28 flX7_203 SH_58 (by decide) rfl rfl (by (rw [aup_k (by decide)]) <;> rfl) dX7_loadPattern_99 (fun r99 => ?_)
            refine aw_putIk 30 flX7_63 SH_58 (by decide) rfl rfl rfl (by first | assumption | omega) dX7_loadPattern_102 ?_
            refine aw_aload_n (i := 0) (q := 0) dX7_loadPattern_105 rfl rfl ?_
            refine aw_getIk (x := m1 58 27) 27 flX7_200 SH_58 (by decide) rfl rfl (by (rw [aup_k (by decide), aup_k (by decide)]) <;> rfl) dX7_loadPattern_106 (fun r106 => ?_)
            refine aw_if_eq (tgt := 120) dX7_loadPattern_109 (by decide) (by first | assumption | omega) (fun c109 => ?_) (fun c109 => ?_)
            · exact absurd (by assumption) k1
            · refine aw_bipush (x := -30) dX7_loadPattern_112 rfl ?_
              refine aw_aload_n (i := 0) (q := 0) dX7_loadPattern_114 rfl rfl ?_
              refine aw_getIk (x := m1 58 27) 27 flX7_200 SH_58 (by decide) rfl rfl (by (rw [aup_k (by decide), aup_k (by decide)]) <;> rfl) dX7_loadPattern_115 (fun r115 => ?_)
              refine aw_isub dX7_loadPattern_118 ?_
              exact aw_iret ⟨_, rfl, rfl, rfl, Or.inr ⟨⟨by omega, by omega⟩, Or.inr ⟨⟨by omega, by omega⟩, m1 58 27, m1 58 28, o8, k2, by rw [aup_k (by decide), aup_k (by decide)]; exact e23, by rw [aup_k (by decide), aup_eq], aup_eq _ _ _ _, Or.inl ⟨k1, rfl, fun x j a b => by (rcases b with b | b | b) <;> ((first | rw [aup_a b, aup_a b] | rw [aup_k (by omega), aup_k (by omega)]); exact g1 x j a (by omega))⟩⟩⟩⟩ (Nat.le_refl _) (Nat.le_refl _) dX7_loadPattern_119
          · exact absurd (by assumption) k1
      · have hp1 : p1 = t := by rcases k4 with ⟨-, z⟩ | ⟨z, -⟩; (exact z); (exact absurd rfl z)
        have hw1 := wf_rch (X := fun j => mi 71 j) (E := t) (by omega) kk (0, [], []) _ ⟨Int.le_refl _, (show 0 ≤ t by omega), by decide, by decide, (fun x hx => by cases hx), (fun g hg => by cases hg)⟩ k3
        refine aw_aload_n (i := 0) (q := 0) dX7_loadPattern_62 rfl rfl ?_
        refine aw_getIk (x := (o.length : Int)) 26 flX7_244 SH_58 (by decide) rfl rfl j2 dX7_loadPattern_63 (fun r63 => ?_)
        refine aw_if_ne (tgt := 78) dX7_loadPattern_66 (by decide) (by first | assumption | omega) (fun c66 => ?_) (fun c66 => ?_)
        · refine aw_aload_n (i := 0) (q := 0) dX7_loadPattern_78 rfl rfl ?_
          refine aw_aload_n (i := 0) (q := 0) dX7_loadPattern_79 rfl rfl ?_
          refine aw_getIk (x := 0) 27 flX7_200 SH_58 (by decide) rfl rfl k1 dX7_loadPattern_80 (fun r80 => ?_)
          refine aw_putIk 29 flX7_255 SH_58 (by decide) rfl rfl rfl (by decide) dX7_loadPattern_83 ?_
          refine aw_aload_n (i := 0) (q := 0) dX7_loadPattern_86 rfl rfl ?_
          refine aw_aload_n (i := 0) (q := 0) dX7_loadPattern_87 rfl rfl ?_
          refine aw_getIk (x := 0) 27 flX7_200 SH_58 (by decide) rfl rfl (by rw [aup_k (by decide)]; exact k1) dX7_loadPattern_88 (fun r88 => ?_)
          refine aw_if_ne (tgt := 98) dX7_loadPattern_91 (by decide) (by decide) (fun c91 => ?_) (fun c91 => ?_)
          · exact absurd c91 (by decide)
          · refine aw_iconst dX7_loadPattern_94 ?_
            refine aw_goto (tgt := 102) dX7_loadPattern_95 (by decide) ?_
            refine aw_putIk 30 flX7_63 SH_58 (by decide) rfl rfl rfl (by decide) dX7_loadPattern_102 ?_
            refine aw_aload_n (i := 0) (q := 0) dX7_loadPattern_105 rfl rfl ?_
            refine aw_getIk (x := 0) 27 flX7_200 SH_58 (by decide) rfl rfl (by rw [aup_k (by decide), aup_k (by decide)]; exact k1) dX7_loadPattern_106 (fun r106 => ?_)
            refine aw_if_eq (tgt := 120) dX7_loadPattern_109 (by decide) (by decide) (fun c109 => ?_) (fun c109 => ?_)
            · refine aw_iconst dX7_loadPattern_120 ?_
              refine aw_istore_n (i := 3) (lv' := [(0, .ref 58), (1, iI w), (2, iI t), (3, iI 0)]) [1, 2, 3, 0] dX7_loadPattern_121 rfl (by decide) rfl ?_
              have ho9 : 1 ≤ o.length ∧ o.length ≤ 100 := ⟨by omega, hw1.2.2.1⟩
              refine l_cpl hR (w := w) (o := o) ⟨by omega, by omega⟩ ho9.2 (fun x hx => hw1.2.2.2.2.1 x hx) (by rw [aup_k (by decide), aup_k (by decide)]; exact j2) (AR_congr j3 (fun j => by rw [aup_a (by decide), aup_a (by decide)])) (fun m hf hc => ⟨_, rfl, rfl, rfl, Or.inr ⟨⟨by omega, by omega⟩, Or.inr ⟨⟨by omega, by omega⟩, 0, -1, o, ⟨_, ⟨kk, k3⟩, Or.inr ⟨by show t ≤ p1; omega, Or.inr (Or.inr ⟨rfl, (fun z => by have z9 : o = [] := z; rw [z9] at ho9; exact absurd ho9.1 (by decide)), rfl, rfl⟩)⟩, fun _ => rfl⟩, ?_, ?_, ?_, Or.inr ⟨rfl, rfl, ho9, (fun x hx => hw1.2.2.2.2.1 x hx), aup_eq _ _ _ _, (fun i hi => by rw [aup_a (by decide)]; exact hc i hi), fun x j a b c d9 => ?_⟩⟩⟩⟩) (o.length + 1) _ 0 (fun _ _ _ => rfl) (fun i hi => by omega) (by omega) (by omega)
              · rw [aup_a (by decide), hf _ _ (Or.inl (by decide)), aup_k (by decide), aup_k (by decide)]; exact e23
              · rw [aup_a (by decide), hf _ _ (Or.inl (by decide)), aup_k (by decide), aup_eq]
              · rw [aup_a (by decide), hf _ _ (Or.inl (by decide)), aup_eq]
              · have e1 : ∀ v : Int, aup m 73 w v x j = m x j := fun v => by rcases c with c | c; (exact aup_a c); (exact aup_k c)
                rw [e1, hf x j (by omega)]
                have e2 : aup (aup m1 58 29 0) 58 30 (-1) x j = m1 x j := by rcases b with b | b | b; (rw [aup_a b, aup_a b]); (rw [aup_k (by omega), aup_k (by omega)]); (rw [aup_k (by omega), aup_k (by omega)])
                rw [e2]; exact g1 x j a (by omega)
            · exact absurd c109 (by decide)
        · refine aw_aload_n (i := 0) (q := 0) dX7_loadPattern_69 rfl rfl ?_
          refine aw_iconst dX7_loadPattern_70 ?_
          refine aw_aload_n (i := 0) (q := 0) dX7_loadPattern_71 rfl rfl ?_
          refine aw_getIk (x := t) 24 flX7_209 SH_58 (by decide) rfl rfl e24 dX7_loadPattern_72 (fun r72 => ?_)
          refine aw_cVv (As := [iI 5, iI t]) (st := []) clX7_227 (s_fails0 (mi := m1) hR (by decide) (by omega) k1) SH_58 rfl (by decide) rfl rfl (Nat.le_of_ble_eq_true rfl) (by decide) (by decide) (Nat.le_refl _) (Nat.le_refl _) dX7_loadPattern_75 (fun m9 hm9 => ?_)
          subst hm9
          refine aw_aload_n (i := 0) (q := 0) dX7_loadPattern_78 rfl rfl ?_
          refine aw_aload_n (i := 0) (q := 0) dX7_loadPattern_79 rfl rfl ?_
          refine aw_getIk (x := 5) 27 flX7_200 SH_58 (by decide) rfl rfl (by (rw [aup_k (by decide), aup_eq]) <;> rfl) dX7_loadPattern_80 (fun r80 => ?_)
          refine aw_putIk 29 flX7_255 SH_58 (by decide) rfl rfl rfl (by decide) dX7_loadPattern_83 ?_
          refine aw_aload_n (i := 0) (q := 0) dX7_loadPattern_86 rfl rfl ?_
          refine aw_aload_n (i := 0) (q := 0) dX7_loadPattern_87 rfl rfl ?_
          refine aw_getIk (x := 5) 27 flX7_200 SH_58 (by decide) rfl rfl (by (rw [aup_k (by decide), aup_k (by decide), aup_eq]) <;> rfl) dX7_loadPattern_88 (fun r88 => ?_)
          refine aw_if_ne (tgt := 98) dX7_loadPattern_91 (by decide) (by decide) (fun c91 => ?_) (fun c91 => ?_)
          · refine aw_aload_n (i := 0) (q := 0) dX7_loadPattern_98 rfl rfl ?_
            refine aw_getIk (x := t) 28 flX7_203 SH_58 (by decide) rfl rfl (by (rw [aup_k (by decide), aup_eq]) <;> rfl) dX7_loadPattern_99 (fun r99 => ?_)
            refine aw_putIk 30 flX7_63 SH_58 (by decide) rfl rfl rfl (by first | assumption | omega) dX7_loadPattern_102 ?_
            refine aw_aload_n (i := 0) (q := 0) dX7_loadPattern_105 rfl rfl ?_
            refine aw_getIk (x := 5) 27 flX7_200 SH_58 (by decide) rfl rfl (by (rw [aup_k (by decide), aup_k (by decide), aup_k (by decide), aup_eq]) <;> rfl) dX7_loadPattern_106 (fun r106 => ?_)
            refine aw_if_eq (tgt := 120) dX7_loadPattern_109 (by decide) (by decide) (fun c109 => ?_) (fun c109 => ?_)
            · exact absurd c109 (by decide)
            · refine aw_bipush (x := -30) dX7_loadPattern_112 rfl ?_
              refine aw_aload_n (i := 0) (q := 0) dX7_loadPattern_114 rfl rfl ?_
              refine aw_getIk (x := 5) 27 flX7_200 SH_58 (by decide) rfl rfl (by (rw [aup_k (by decide), aup_k (by decide), aup_k (by decide), aup_eq]) <;> rfl) dX7_loadPattern_115 (fun r115 => ?_)
              refine aw_isub dX7_loadPattern_118 ?_
              exact aw_iret ⟨_, rfl, rfl, rfl, Or.inr ⟨⟨by omega, by omega⟩, Or.inr ⟨⟨by omega, by omega⟩, 5, t, o, ⟨_, ⟨kk, k3⟩, Or.inr ⟨by show t ≤ p1; omega, Or.inr (Or.inl ⟨rfl, List.eq_nil_of_length_eq_zero (by show o.length = 0; omega), rfl, rfl⟩)⟩, fun z => absurd z (by decide)⟩, by rw [aup_k (by decide), aup_k (by decide), aup_k (by decide), aup_k (by decide)]; exact e23, by rw [aup_k (by decide), aup_eq], aup_eq _ _ _ _, Or.inl ⟨by decide, rfl, fun x j a b => by (rcases b with b | b | b) <;> ((first | rw [aup_a b, aup_a b, aup_a b, aup_a b] | rw [aup_k (by omega), aup_k (by omega), aup_k (by omega), aup_k (by omega)]); exact g1 x j a (by omega))⟩⟩⟩⟩ (Nat.le_refl _) (Nat.le_refl _) dX7_loadPattern_119
          · exact absurd c91 (by decide)
    · refine aw_bipush (x := -3) dX7_loadPattern_29 rfl ?_
      exact aw_iret ⟨_, rfl, rfl, rfl, Or.inr ⟨⟨by omega, by omega⟩, Or.inl ⟨by omega, rfl, rfl⟩⟩⟩ (Nat.le_refl _) (Nat.le_refl _) dX7_loadPattern_31
  · refine aw_bipush (x := -2) dX7_loadPattern_12 rfl ?_
    exact aw_iret ⟨_, rfl, rfl, rfl, Or.inl ⟨by omega, rfl, rfl⟩⟩ (Nat.le_refl _) (Nat.le_refl _) dX7_loadPattern_14
theorem s_X7_loadPattern {mr : aR} (hR : Rok mr) {mi : aM} {w t : Int} (h_w : -2147483648 ≤ w ∧ w ≤ 2147483647) (h_t : -2147483648 ≤ t ∧ t ≤ 2147483647) (hT : 0 ≤ (aup mi 58 0 0) 58 23 ∧ (aup mi 58 0 0) 58 23 ≤ 300) : SPg yX7_loadPattern cX7_loadPattern 4 (some .int) 16 [.ref 58, iI w, iI t] mi mr (Pi mr (fun r m => (¬ (0 ≤ w ∧ w < 5) ∧ r = -2 ∧ m = (aup mi 58 0 0)) ∨ ((0 ≤ w ∧ w < 5) ∧ ((¬ (0 ≤ t ∧ t ≤ (aup mi 58 0 0) 58 23) ∧ r = -3 ∧ m = (aup mi 58 0 0)) ∨ ((0 ≤ t ∧ t ≤ (aup mi 58 0 0) 58 23) ∧ ∃ (e ep : Int) (o : List Int), Fin9 (sgF (fun j => (aup mi 58 0 0) 71 j) t) t (0, [], []) e ep o ∧ m 58 23 = 0 ∧ m 58 29 = e ∧ m 58 30 = ep ∧ ((e ≠ 0 ∧ r = -30 - e ∧ ∀ (x : Nat) (j : Int), x ≠ 74 → (x ≠ 58 ∨ j < 23 ∨ 30 < j) → m x j = (aup mi 58 0 0) x j) ∨ (e = 0 ∧ r = (o.length : Int) ∧ (1 ≤ o.length ∧ o.length ≤ 100) ∧ (∀ x ∈ o, 0 ≤ x ∧ x < 4096) ∧ m 73 w = (o.length : Int) ∧ (∀ i : Nat, i < o.length → m 72 (100 * w + i) = o.getD i 0) ∧ ∀ (x : Nat) (j : Int), x ≠ 74 → (x ≠ 58 ∨ j < 23 ∨ 30 < j) → (x ≠ 73 ∨ j ≠ w) → (x ≠ 72 ∨ j < 100 * w ∨ 100 * w + 100 ≤ j) → m x j = (aup mi 58 0 0) x j))))))) := by
  refine SPg.int rfl (by decide +kernel) (Nat.le_of_ble_eq_true rfl) ?_
  show AWm RX7 cX7_loadPattern 4 16 _ 0 [(0, .ref 58), (1, iI w), (2, iI t)] [] mi mr
  refine aw_aload_n (i := 0) (q := 0) dX7_loadPattern_0 rfl rfl ?_
  refine aw_iconst dX7_loadPattern_1 ?_
  refine aw_putIk 0 flX7_1 SH_58 (by decide) rfl rfl rfl (by decide) dX7_loadPattern_2 ?_
  exact t_loadPattern (mi := aup mi 58 0 0) hR h_w h_t hT
