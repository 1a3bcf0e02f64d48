-- part 60: the class: read, loadPattern (printed by wip/whole/gen/p60.py)
/-- what reading the first t signs leaves -/
def rdO (mi m : aM) (t : Int) : Prop := (∀ (x : Nat) (j : Int), x ≠ 18 → x ≠ 20 → x ≠ 21 → x ≠ 22 → m x j = mi x j) ∧ m 18 1 = mi 18 1 ∧ ∃ (e ep : Int) (o : List Int), Fin9 (sgF (fun j => mi 19 j) t) t (0, [], []) e ep o ∧ m 18 4 = e ∧ m 18 5 = ep ∧ (e = 0 → m 18 3 = (o.length : Int) ∧ AR m 20 o ∧ (1 ≤ o.length ∧ o.length ≤ 100) ∧ ∀ x ∈ o, 0 ≤ x ∧ x < 4096)
theorem sgC_x {mi m : aM} {t : Int} (h : (∀ (x : Nat) (j : Int), x ≠ 18 → x ≠ 20 → x ≠ 21 → x ≠ 22 → m x j = mi x j)) (h6 : m 18 6 = t) : sgC m = (sgF (fun j => mi 19 j) t) := by
  unfold sgC
  rw [h6]
  congr 1
  funext j
  exact h 19 j (by decide) (by decide) (by decide) (by decide)
theorem l_rerr {mr : aR} (hR : Rok mr) {mi m : aM} {t z : Int} (hz : 0 ≤ z ∧ z ≤ 1000) (he : m 18 4 ≠ 0) (ho : rdO mi m t) : AWm RX3 cX3_read 3 5 (Pv mr (fun m => rdO mi m t)) 39 [(0, .ref 18), (1, iI t), (2, iI z)] [] m mr := by
  refine aw_iload_n (i := 2) (q := 2) dX3_read_39 rfl rfl ?_
  refine aw_sipush (x := 300) dX3_read_40 rfl ?_
  refine aw_icmp_ge (tgt := 74) dX3_read_43 (by decide) (by first | assumption | omega) (by decide) (fun c43 => ?_) (fun c43 => ?_)
  · refine aw_aload_n (i := 0) (q := 0) dX3_read_74 rfl rfl ?_
    refine aw_getIk (x := m 18 4) 4 flX3_25 SH_18 (by decide) rfl rfl rfl dX3_read_75 (fun r75 => ?_)
    refine aw_if_ne (tgt := 100) dX3_read_78 (by decide) (by first | assumption | omega) (fun c78 => ?_) (fun c78 => ?_)
    · refine aw_aload_n (i := 0) (q := 0) dX3_read_100 rfl rfl ?_
      refine aw_getIk (x := m 18 4) 4 flX3_25 SH_18 (by decide) rfl rfl rfl dX3_read_101 (fun r101 => ?_)
      refine aw_if_ne (tgt := 123) dX3_read_104 (by decide) (by first | assumption | omega) (fun c104 => ?_) (fun c104 => ?_)
      · exact aw_vret ⟨rfl, rfl, rfl, ho⟩ (Nat.le_refl _) (Nat.le_refl _) dX3_read_123
      · exact absurd (by assumption) he
    · exact absurd (by assumption) he
  · refine aw_aload_n (i := 0) (q := 0) dX3_read_46 rfl rfl ?_
    refine aw_getIk (x := m 18 7) 7 flX3_34 SH_18 (by decide) rfl rfl rfl dX3_read_47 (fun r47 => ?_)
    refine aw_aload_n (i := 0) (q := 0) dX3_read_50 rfl rfl ?_
    refine aw_getIk (x := m 18 6) 6 flX3_31 SH_18 (by decide) rfl rfl rfl dX3_read_51 (fun r51 => ?_)
    refine aw_icmp_ge (tgt := 74) dX3_read_54 (by decide) (by first | assumption | omega) (by first | assumption | omega) (fun c54 => ?_) (fun c54 => ?_)
    · refine aw_aload_n (i := 0) (q := 0) dX3_read_74 rfl rfl ?_
      refine aw_getIk (x := m 18 4) 4 flX3_25 SH_18 (by decide) rfl rfl rfl dX3_read_75 (fun r75 => ?_)
      refine aw_if_ne (tgt := 100) dX3_read_78 (by decide) (by first | assumption | omega) (fun c78 => ?_) (fun c78 => ?_)
      · refine aw_aload_n (i := 0) (q := 0) dX3_read_100 rfl rfl ?_
        refine aw_getIk (x := m 18 4) 4 flX3_25 SH_18 (by decide) rfl rfl rfl dX3_read_101 (fun r101 => ?_)
        refine aw_if_ne (tgt := 123) dX3_read_104 (by decide) (by first | assumption | omega) (fun c104 => ?_) (fun c104 => ?_)
        · exact aw_vret ⟨rfl, rfl, rfl, ho⟩ (Nat.le_refl _) (Nat.le_refl _) dX3_read_123
        · exact absurd (by assumption) he
      · exact absurd (by assumption) he
    · refine aw_aload_n (i := 0) (q := 0) dX3_read_57 rfl rfl ?_
      refine aw_getIk (x := m 18 4) 4 flX3_25 SH_18 (by decide) rfl rfl rfl dX3_read_58 (fun r58 => ?_)
      refine aw_if_ne (tgt := 74) dX3_read_61 (by decide) (by first | assumption | omega) (fun c61 => ?_) (fun c61 => ?_)
      · refine aw_aload_n (i := 0) (q := 0) dX3_read_74 rfl rfl ?_
        refine aw_getIk (x := m 18 4) 4 flX3_25 SH_18 (by decide) rfl rfl rfl dX3_read_75 (fun r75 => ?_)
        refine aw_if_ne (tgt := 100) dX3_read_78 (by decide) (by first | assumption | omega) (fun c78 => ?_) (fun c78 => ?_)
        · refine aw_aload_n (i := 0) (q := 0) dX3_read_100 rfl rfl ?_
          refine aw_getIk (x := m 18 4) 4 flX3_25 SH_18 (by decide) rfl rfl rfl dX3_read_101 (fun r101 => ?_)
          refine aw_if_ne (tgt := 123) dX3_read_104 (by decide) (by first | assumption | omega) (fun c104 => ?_) (fun c104 => ?_)
          · exact aw_vret ⟨rfl, rfl, rfl, ho⟩ (Nat.le_refl _) (Nat.le_refl _) dX3_read_123
          · exact absurd (by assumption) he
        · exact absurd (by assumption) he
      · exact absurd (by assumption) he
theorem l_read {mr : aR} (hR : Rok mr) {mi : aM} {t : Int} (hT : 0 ≤ mi 18 1 ∧ mi 18 1 ≤ 300) (hn : 0 ≤ t ∧ t ≤ mi 18 1) : ∀ (n : Nat) (m : aM) (z p0 : Int) (o : List Int) (k : rSt), (∀ (x : Nat) (j : Int), x ≠ 18 → x ≠ 20 → x ≠ 21 → x ≠ 22 → m x j = mi x j) → m 18 1 = mi 18 1 → m 18 6 = t → RQc m (p0, o, k) → wfQ t (p0, o, k) → Rch (sgF (fun j => mi 19 j) t) t (0, [], []) (p0, o, k) → m 18 4 = 0 → m 18 5 = -1 → (0 ≤ z ∧ z ≤ 300) → z ≤ p0 → 300 - z < n → AWm RX3 cX3_read 3 5 (Pv mr (fun m => rdO mi m t)) 39 [(0, .ref 18), (1, iI t), (2, iI z)] [] m mr := by
  intro n
  induction n with
  | zero => intro m z p0 o k hfr h1 h6 hq hw hrc h4 h5 h2 hzp h9; omega
  | succ n ih =>
    intro m z p0 o k hfr h1 h6 hq hw hrc h4 h5 h2 hzp h9
    have h7 : m 18 7 = p0 := hq.1
    have h3 : m 18 3 = (o.length : Int) := hq.2.1
    have h8 : m 18 8 = (k.length : Int) := hq.2.2.2.1
    have hp9 : 0 ≤ p0 ∧ p0 ≤ t := ⟨hw.1, hw.2.1⟩
    refine aw_iload_n (i := 2) (q := 2) dX3_read_39 rfl rfl ?_
    refine aw_sipush (x := 300) dX3_read_40 rfl ?_
    refine aw_icmp_ge (tgt := 74) dX3_read_43 (by decide) (by first | assumption | omega) (by decide) (fun c43 => ?_) (fun c43 => ?_)
    · refine aw_aload_n (i := 0) (q := 0) dX3_read_74 rfl rfl ?_
      refine aw_getIk (x := 0) 4 flX3_25 SH_18 (by decide) rfl rfl h4 dX3_read_75 (fun r75 => ?_)
      refine aw_if_ne (tgt := 100) dX3_read_78 (by decide) (by decide) (fun c78 => ?_) (fun c78 => ?_)
      · exact absurd c78 (by decide)
      · refine aw_aload_n (i := 0) (q := 0) dX3_read_81 rfl rfl ?_
        refine aw_getIk (x := m 18 8) 8 flX3_37 SH_18 (by decide) rfl rfl rfl dX3_read_82 (fun r82 => ?_)
        refine aw_if_le (tgt := 100) dX3_read_85 (by decide) (by first | assumption | omega) (fun c85 => ?_) (fun c85 => ?_)
        · refine aw_aload_n (i := 0) (q := 0) dX3_read_100 rfl rfl ?_
          refine aw_getIk (x := 0) 4 flX3_25 SH_18 (by decide) rfl rfl h4 dX3_read_101 (fun r101 => ?_)
          refine aw_if_ne (tgt := 123) dX3_read_104 (by decide) (by decide) (fun c104 => ?_) (fun c104 => ?_)
          · exact absurd c104 (by decide)
          · refine aw_aload_n (i := 0) (q := 0) dX3_read_107 rfl rfl ?_
            refine aw_getIk (x := m 18 3) 3 flX3_22 SH_18 (by decide) rfl rfl rfl dX3_read_108 (fun r108 => ?_)
            refine aw_if_ne (tgt := 123) dX3_read_111 (by decide) (by first | assumption | omega) (fun c111 => ?_) (fun c111 => ?_)
            · have hk0 : k = [] := List.eq_nil_of_length_eq_zero (by omega)
              exact aw_vret ⟨rfl, rfl, rfl, ⟨hfr, h1, 0, -1, o, ⟨_, hrc, Or.inr ⟨by show t ≤ p0; omega, Or.inr (Or.inr ⟨hk0, (fun z => by have z9 : o = [] := z; rw [z9] at h3; have h3 : m 18 3 = 0 := h3; omega), rfl, rfl⟩)⟩, fun _ => rfl⟩, h4, h5, fun _ => ⟨h3, hq.2.2.1, ⟨by omega, hw.2.2.1⟩, hw.2.2.2.2.1⟩⟩⟩ (Nat.le_refl _) (Nat.le_refl _) dX3_read_123
            · refine aw_aload_n (i := 0) (q := 0) dX3_read_114 rfl rfl ?_
              refine aw_iconst dX3_read_115 ?_
              refine aw_aload_n (i := 0) (q := 0) dX3_read_116 rfl rfl ?_
              refine aw_getIk (x := t) 6 flX3_31 SH_18 (by decide) rfl rfl h6 dX3_read_117 (fun r117 => ?_)
              refine aw_cVv (As := [iI 5, iI t]) (st := []) clX3_55 (s_X3_fail hR (by decide) (by omega)) SH_18 rfl (by decide) rfl rfl (Nat.le_of_ble_eq_true rfl) (by decide) (by decide) (Nat.le_refl _) (Nat.le_refl _) dX3_read_120 (fun m9 hm9 => ?_)
              subst hm9
              have hk0 : k = [] := List.eq_nil_of_length_eq_zero (by omega)
              have ho0 : o = [] := List.eq_nil_of_length_eq_zero (by omega)
              exact aw_vret ⟨rfl, rfl, rfl, ⟨(fun x j a b c d => by rw [aup_a a, aup_a a]; exact hfr x j a b c d), by rw [aup_k (by decide), aup_k (by decide)]; exact h1, 5, t, o, ⟨_, hrc, Or.inr ⟨by show t ≤ p0; omega, Or.inr (Or.inl ⟨hk0, ho0, rfl, rfl⟩)⟩, fun z => absurd z (by decide)⟩, by rw [aup_k (by decide), aup_eq], aup_eq _ _ _ _, fun z => absurd z (by decide)⟩⟩ (Nat.le_refl _) (Nat.le_refl _) dX3_read_123
        · refine aw_aload_n (i := 0) (q := 0) dX3_read_88 rfl rfl ?_
          refine aw_iconst dX3_read_89 ?_
          refine aw_aload_n (i := 0) (q := 0) dX3_read_90 rfl rfl ?_
          refine aw_getIk (x := t) 6 flX3_31 SH_18 (by decide) rfl rfl h6 dX3_read_91 (fun r91 => ?_)
          refine aw_cVv (As := [iI 1, iI t]) (st := []) clX3_55 (s_X3_fail hR (by decide) (by omega)) SH_18 rfl (by decide) rfl rfl (Nat.le_of_ble_eq_true rfl) (by decide) (by decide) (Nat.le_refl _) (Nat.le_refl _) dX3_read_94 (fun m9 hm9 => ?_)
          subst hm9
          refine aw_goto (tgt := 123) dX3_read_97 (by decide) ?_
          exact aw_vret ⟨rfl, rfl, rfl, ⟨(fun x j a b c d => by rw [aup_a a, aup_a a]; exact hfr x j a b c d), by rw [aup_k (by decide), aup_k (by decide)]; exact h1, 1, t, o, ⟨_, hrc, Or.inr ⟨by show t ≤ p0; omega, Or.inl ⟨(fun z => by have z9 : k = [] := z; rw [z9] at h8; have h8 : m 18 8 = 0 := h8; omega), rfl, rfl⟩⟩, fun z => absurd z (by decide)⟩, by rw [aup_k (by decide), aup_eq], aup_eq _ _ _ _, fun z => absurd z (by decide)⟩⟩ (Nat.le_refl _) (Nat.le_refl _) dX3_read_123
    · refine aw_aload_n (i := 0) (q := 0) dX3_read_46 rfl rfl ?_
      refine aw_getIk (x := p0) 7 flX3_34 SH_18 (by decide) rfl rfl h7 dX3_read_47 (fun r47 => ?_)
      refine aw_aload_n (i := 0) (q := 0) dX3_read_50 rfl rfl ?_
      refine aw_getIk (x := t) 6 flX3_31 SH_18 (by decide) rfl rfl h6 dX3_read_51 (fun r51 => ?_)
      refine aw_icmp_ge (tgt := 74) dX3_read_54 (by decide) (by first | assumption | omega) (by first | assumption | omega) (fun c54 => ?_) (fun c54 => ?_)
      · refine aw_aload_n (i := 0) (q := 0) dX3_read_74 rfl rfl ?_
        refine aw_getIk (x := 0) 4 flX3_25 SH_18 (by decide) rfl rfl h4 dX3_read_75 (fun r75 => ?_)
        refine aw_if_ne (tgt := 100) dX3_read_78 (by decide) (by decide) (fun c78 => ?_) (fun c78 => ?_)
        · exact absurd c78 (by decide)
        · refine aw_aload_n (i := 0) (q := 0) dX3_read_81 rfl rfl ?_
          refine aw_getIk (x := m 18 8) 8 flX3_37 SH_18 (by decide) rfl rfl rfl dX3_read_82 (fun r82 => ?_)
          refine aw_if_le (tgt := 100) dX3_read_85 (by decide) (by first | assumption | omega) (fun c85 => ?_) (fun c85 => ?_)
          · refine aw_aload_n (i := 0) (q := 0) dX3_read_100 rfl rfl ?_
            refine aw_getIk (x := 0) 4 flX3_25 SH_18 (by decide) rfl rfl h4 dX3_read_101 (fun r101 => ?_)
            refine aw_if_ne (tgt := 123) dX3_read_104 (by decide) (by decide) (fun c104 => ?_) (fun c104 => ?_)
            · exact absurd c104 (by decide)
            · refine aw_aload_n (i := 0) (q := 0) dX3_read_107 rfl rfl ?_
              refine aw_getIk (x := m 18 3) 3 flX3_22 SH_18 (by decide) rfl rfl rfl dX3_read_108 (fun r108 => ?_)
              refine aw_if_ne (tgt := 123) dX3_read_111 (by decide) (by first | assumption | omega) (fun c111 => ?_) (fun c111 => ?_)
              · have hk0 : k = [] := List.eq_nil_of_length_eq_zero (by omega)
                exact aw_vret ⟨rfl, rfl, rfl, ⟨hfr, h1, 0, -1, o, ⟨_, hrc, Or.inr ⟨by show t ≤ p0; omega, Or.inr (Or.inr ⟨hk0, (fun z => by have z9 : o = [] := z; rw [z9] at h3; have h3 : m 18 3 = 0 := h3; omega), rfl, rfl⟩)⟩, fun _ => rfl⟩, h4, h5, fun _ => ⟨h3, hq.2.2.1, ⟨by omega, hw.2.2.1⟩, hw.2.2.2.2.1⟩⟩⟩ (Nat.le_refl _) (Nat.le_refl _) dX3_read_123
              · refine aw_aload_n (i := 0) (q := 0) dX3_read_114 rfl rfl ?_
                refine aw_iconst dX3_read_115 ?_
                refine aw_aload_n (i := 0) (q := 0) dX3_read_116 rfl rfl ?_
                refine aw_getIk (x := t) 6 flX3_31 SH_18 (by decide) rfl rfl h6 dX3_read_117 (fun r117 => ?_)
                refine aw_cVv (As := [iI 5, iI t]) (st := []) clX3_55 (s_X3_fail hR (by decide) (by omega)) SH_18 rfl (by decide) rfl rfl (Nat.le_of_ble_eq_true rfl) (by decide) (by decide) (Nat.le_refl _) (Nat.le_refl _) dX3_read_120 (fun m9 hm9 => ?_)
                subst hm9
                have hk0 : k = [] := List.eq_nil_of_length_eq_zero (by omega)
                have ho0 : o = [] := List.eq_nil_of_length_eq_zero (by omega)
                exact aw_vret ⟨rfl, rfl, rfl, ⟨(fun x j a b c d => by rw [aup_a a, aup_a a]; exact hfr x j a b c d), by rw [aup_k (by decide), aup_k (by decide)]; exact h1, 5, t, o, ⟨_, hrc, Or.inr ⟨by show t ≤ p0; omega, Or.inr (Or.inl ⟨hk0, ho0, rfl, rfl⟩)⟩, fun z => absurd z (by decide)⟩, by rw [aup_k (by decide), aup_eq], aup_eq _ _ _ _, fun z => absurd z (by decide)⟩⟩ (Nat.le_refl _) (Nat.le_refl _) dX3_read_123
          · refine aw_aload_n (i := 0) (q := 0) dX3_read_88 rfl rfl ?_
            refine aw_iconst dX3_read_89 ?_
            refine aw_aload_n (i := 0) (q := 0) dX3_read_90 rfl rfl ?_
            refine aw_getIk (x := t) 6 flX3_31 SH_18 (by decide) rfl rfl h6 dX3_read_91 (fun r91 => ?_)
            refine aw_cVv (As := [iI 1, iI t]) (st := []) clX3_55 (s_X3_fail hR (by decide) (by omega)) SH_18 rfl (by decide) rfl rfl (Nat.le_of_ble_eq_true rfl) (by decide) (by decide) (Nat.le_refl _) (Nat.le_refl _) dX3_read_94 (fun m9 hm9 => ?_)
            subst hm9
            refine aw_goto (tgt := 123) dX3_read_97 (by decide) ?_
            exact aw_vret ⟨rfl, rfl, rfl, ⟨(fun x j a b c d => by rw [aup_a a, aup_a a]; exact hfr x j a b c d), by rw [aup_k (by decide), aup_k (by decide)]; exact h1, 1, t, o, ⟨_, hrc, Or.inr ⟨by show t ≤ p0; omega, Or.inl ⟨(fun z => by have z9 : k = [] := z; rw [z9] at h8; have h8 : m 18 8 = 0 := h8; omega), rfl, rfl⟩⟩, fun z => absurd z (by decide)⟩, by rw [aup_k (by decide), aup_eq], aup_eq _ _ _ _, fun z => absurd z (by decide)⟩⟩ (Nat.le_refl _) (Nat.le_refl _) dX3_read_123
      · refine aw_aload_n (i := 0) (q := 0) dX3_read_57 rfl rfl ?_
        refine aw_getIk (x := 0) 4 flX3_25 SH_18 (by decide) rfl rfl h4 dX3_read_58 (fun r58 => ?_)
        refine aw_if_ne (tgt := 74) dX3_read_61 (by decide) (by decide) (fun c61 => ?_) (fun c61 => ?_)
        · exact absurd c61 (by decide)
        · refine aw_aload_n (i := 0) (q := 0) dX3_read_64 rfl rfl ?_
          refine aw_cVv (As := []) (st := []) clX3_52 (s_X3_readNext (mi := m) hR (by rw [h6]; omega) (by rw [h6]; exact hw) hq h4 (by rw [h6]; omega)) SH_18 rfl (by decide) rfl rfl (Nat.le_of_ble_eq_true rfl) (by decide) (by decide) (Nat.le_refl _) (Nat.le_refl _) dX3_read_65 (fun m1 hm1 => ?_)
          obtain ⟨f1, e, ep, q1, hst, hcs⟩ := hm1
          rw [sgC_x hfr h6] at hst
          have hfr1 : (∀ (x : Nat) (j : Int), x ≠ 18 → x ≠ 20 → x ≠ 21 → x ≠ 22 → m1 x j = mi x j) := fun x j a b c d => (f1.1 x j a b c d).trans (hfr x j a b c d)
          rcases hcs with ⟨k1, k2, k3, k4, k5⟩ | ⟨k1, k2, k3⟩
          · refine aw_iinc (i := 2) (q := 2) (x := z) (lv' := [(0, .ref 18), (1, iI t), (2, iI (z + 1))]) [1, 2, 0] dX3_read_68 rfl (by decide) rfl ?_
            refine aw_goto (tgt := 39) dX3_read_71 (by decide) ?_
            subst k1 k2
            have hok : okS (sgF (fun j => mi 19 j) t) t (p0, o, k) q1 := ⟨by show p0 < t; omega, hst⟩
            have hwf := wf_step (by omega) hw hok
            have hlt : p0 < q1.1 := hwf.2
            exact ih m1 (z + 1) q1.1 q1.2.1 q1.2.2 hfr1 (f1.2.1.trans h1) (f1.2.2.trans h6) k3 hwf.1 (Rch_ok hrc hok) k4 (k5.trans h5) (by omega) (by omega) (by omega)
          · refine aw_iinc (i := 2) (q := 2) (x := z) (lv' := [(0, .ref 18), (1, iI t), (2, iI (z + 1))]) [1, 2, 0] dX3_read_68 rfl (by decide) rfl ?_
            refine aw_goto (tgt := 39) dX3_read_71 (by decide) ?_
            exact l_rerr hR (by omega) (by rw [k2]; exact k1) ⟨hfr1, f1.2.1.trans h1, e, ep, [], Fin9_tr hrc (Fin9_er (by show p0 < t; omega) k1 hst), k2, k3, fun z => absurd z k1⟩
theorem s_X3_read {mr : aR} (hR : Rok mr) {mi : aM} {t : Int} (hT : 0 ≤ mi 18 1 ∧ mi 18 1 ≤ 300) (hn : 0 ≤ t ∧ t ≤ mi 18 1) : SPg yX3_read cX3_read 3 none 5 [.ref 18, iI t] mi mr (Pv mr (fun m => rdO mi m t)) := by
  refine SPg.void rfl (by decide +kernel) (Nat.le_of_ble_eq_true rfl) ?_
  show AWm RX3 cX3_read 3 5 _ 0 [(0, .ref 18), (1, iI t)] [] mi mr
  refine aw_aload_n (i := 0) (q := 0) dX3_read_0 rfl rfl ?_
  refine aw_iload_n (i := 1) (q := 1) dX3_read_1 rfl rfl ?_
  refine aw_aload_n (i := 0) (q := 0) dX3_read_2 rfl rfl ?_
  refine aw_getIk (x := mi 18 1) 1 flX3_15 SH_18 (by decide) rfl rfl rfl dX3_read_3 (fun r3 => ?_)
  refine aw_mmin (x := t) (st := [.ref 18]) (by omega) (by omega) clX3_46 (Nat.le_of_ble_eq_true rfl) (by decide) (Nat.le_refl _) (Nat.le_refl _) dX3_read_6 (fun m6 hm6 => ?_)
  refine aw_putIk 6 flX3_31 SH_18 (by decide) rfl rfl rfl (by first | assumption | omega) dX3_read_9 ?_
  refine aw_aload_n (i := 0) (q := 0) dX3_read_12 rfl rfl ?_
  refine aw_iconst dX3_read_13 ?_
  refine aw_putIk 7 flX3_34 SH_18 (by decide) rfl rfl rfl (by decide) dX3_read_14 ?_
  refine aw_aload_n (i := 0) (q := 0) dX3_read_17 rfl rfl ?_
  refine aw_iconst dX3_read_18 ?_
  refine aw_putIk 8 flX3_37 SH_18 (by decide) rfl rfl rfl (by decide) dX3_read_19 ?_
  refine aw_aload_n (i := 0) (q := 0) dX3_read_22 rfl rfl ?_
  refine aw_iconst dX3_read_23 ?_
  refine aw_putIk 3 flX3_22 SH_18 (by decide) rfl rfl rfl (by decide) dX3_read_24 ?_
  refine aw_aload_n (i := 0) (q := 0) dX3_read_27 rfl rfl ?_
  refine aw_iconst dX3_read_28 ?_
  refine aw_putIk 4 flX3_25 SH_18 (by decide) rfl rfl rfl (by decide) dX3_read_29 ?_
  refine aw_aload_n (i := 0) (q := 0) dX3_read_32 rfl rfl ?_
  refine aw_iconst dX3_read_33 ?_
  refine aw_putIk 5 flX3_28 SH_18 (by decide) rfl rfl rfl (by decide) dX3_read_34 ?_
  refine aw_iconst dX3_read_37 ?_
  refine aw_istore_n (i := 2) (lv' := [(0, .ref 18), (1, iI t), (2, iI 0)]) [1, 2, 0] dX3_read_38 rfl (by decide) rfl ?_
  have e6 : m6 = t := by omega
  exact l_read hR hT hn 301 _ 0 0 [] [] (fun x j a b c d => by rw [aup_a a, aup_a a, aup_a a, aup_a a, aup_a a, aup_a a]) (by rw [aup_k (by decide), aup_k (by decide), aup_k (by decide), aup_k (by decide), aup_k (by decide), aup_k (by decide)]) (by rw [aup_k (by decide), aup_k (by decide), aup_k (by decide), aup_k (by decide), aup_k (by decide), aup_eq]; exact e6) ⟨by rw [aup_k (by decide), aup_k (by decide), aup_k (by decide), aup_k (by decide), aup_eq], by rw [aup_k (by decide), aup_k (by decide), aup_eq]; rfl, (fun i hi => by cases hi), by rw [aup_k (by decide), aup_k (by decide), aup_k (by decide), aup_eq]; rfl, trivial⟩ ⟨Int.le_refl _, hn.1, by decide, by decide, (fun x hx => by cases hx), (fun g hg => by cases hg)⟩ (Rch_refl _ _ _) (by rw [aup_k (by decide), aup_eq]) (aup_eq _ _ _ _) (by omega) (by omega) (by omega)
theorem s_X6_loadPattern {mr : aR} (hR : Rok mr) {mi : aM} {w t : Int} (h_w : -2147483648 ≤ w ∧ w ≤ 2147483647) (h_t : -2147483648 ≤ t ∧ t ≤ 2147483647) (hT : 0 ≤ mi 18 1 ∧ mi 18 1 ≤ 300) : SPg yX6_loadPattern cX6_loadPattern 4 (some .int) 6 [.ref 1, iI w, iI t] mi mr (Pi mr (fun r m => (¬ (0 ≤ w ∧ w < 5) ∧ r = -2 ∧ m = mi) ∨ ((0 ≤ w ∧ w < 5) ∧ ((¬ (0 ≤ t ∧ t ≤ mi 18 1) ∧ r = -3 ∧ m = mi) ∨ ((0 ≤ t ∧ t ≤ mi 18 1) ∧ ∃ (e ep : Int) (o : List Int), Fin9 (sgF (fun j => mi 19 j) t) t (0, [], []) e ep o ∧ m 18 1 = 0 ∧ m 18 4 = e ∧ m 18 5 = ep ∧ ((e ≠ 0 ∧ r = -30 - e ∧ (∀ (x : Nat) (j : Int), x ≠ 18 → x ≠ 20 → x ≠ 21 → x ≠ 22 → m x j = mi x j)) ∨ (e = 0 ∧ r = (o.length : Int) ∧ (1 ≤ o.length ∧ o.length ≤ 100) ∧ (∀ x ∈ o, 0 ≤ x ∧ x < 4096) ∧ m (40 + 2 * w.toNat) 1 = (o.length : Int) ∧ AR m ((40 + 2 * w.toNat) + 1) o ∧ ∀ (x : Nat) (j : Int), x ≠ 18 → x ≠ 20 → x ≠ 21 → x ≠ 22 → x ≠ (40 + 2 * w.toNat) → x ≠ (40 + 2 * w.toNat) + 1 → m x j = mi x j))))))) := by
  refine SPg.int rfl (by decide +kernel) (Nat.le_of_ble_eq_true rfl) ?_
  show AWm RX6 cX6_loadPattern 4 6 _ 0 [(0, .ref 1), (1, iI w), (2, iI t)] [] mi mr
  refine aw_iload_n (i := 1) (q := 1) dX6_loadPattern_0 rfl rfl ?_
  refine aw_cSp (As := [iI w]) (st := []) clX6_181 (s_X6_isPattern hR (by omega)) rfl rfl (Nat.le_of_ble_eq_true rfl) (by decide) (by decide) (Nat.le_refl _) (Nat.le_refl _) dX6_loadPattern_1 (fun v1 hv1 => ?_)
  refine aw_if_ne (tgt := 10) dX6_loadPattern_4 (by decide) (by first | assumption | omega) (fun c4 => ?_) (fun c4 => ?_)
  · refine aw_iload_n (i := 2) (q := 2) dX6_loadPattern_10 rfl rfl ?_
    refine aw_iconst dX6_loadPattern_11 ?_
    refine aw_aload_n (i := 0) (q := 0) dX6_loadPattern_12 rfl rfl ?_
    refine aw_getR (r := 18) flX6_40 SH_1 (by decide) rfl (rk_1_5 hR) dX6_loadPattern_13 ?_
    refine aw_getIk (x := mi 18 1) 1 flX6_175 SH_18 (by decide) rfl rfl rfl dX6_loadPattern_16 (fun r16 => ?_)
    refine aw_cSp (As := [iI t, iI 0, iI (mi 18 1)]) (st := []) clX6_87 (s_X6_outside hR (by omega) (by omega) (by omega)) rfl rfl (Nat.le_of_ble_eq_true rfl) (by decide) (by decide) (Nat.le_refl _) (Nat.le_refl _) dX6_loadPattern_19 (fun v19 hv19 => ?_)
    refine aw_if_eq (tgt := 28) dX6_loadPattern_22 (by decide) (by first | assumption | omega) (fun c22 => ?_) (fun c22 => ?_)
    · refine aw_aload_n (i := 0) (q := 0) dX6_loadPattern_28 rfl rfl ?_
      refine aw_getR (r := 18) flX6_40 SH_1 (by decide) rfl (rk_1_5 hR) dX6_loadPattern_29 ?_
      refine aw_iload_n (i := 2) (q := 2) dX6_loadPattern_32 rfl rfl ?_
      refine aw_cVv (As := [iI t]) (st := []) clX6_184 (s_X3_read hR hT (by omega)) SH_18 rfl (by decide) rfl rfl (Nat.le_of_ble_eq_true rfl) (by decide) (by decide) (Nat.le_refl _) (Nat.le_refl _) dX6_loadPattern_33 (fun m1 hm1 => ?_)
      obtain ⟨hfr, h1, e, ep, o, hF, he, hep, hok⟩ := hm1
      refine aw_aload_n (i := 0) (q := 0) dX6_loadPattern_36 rfl rfl ?_
      refine aw_getR (r := 18) flX6_40 SH_1 (by decide) rfl (rk_1_5 hR) dX6_loadPattern_37 ?_
      refine aw_iconst dX6_loadPattern_40 ?_
      refine aw_putIk 1 flX6_175 SH_18 (by decide) rfl rfl rfl (by decide) dX6_loadPattern_41 ?_
      refine aw_aload_n (i := 0) (q := 0) dX6_loadPattern_44 rfl rfl ?_
      refine aw_getR (r := 18) flX6_40 SH_1 (by decide) rfl (rk_1_5 hR) dX6_loadPattern_45 ?_
      refine aw_getIk (x := m1 18 4) 4 flX6_187 SH_18 (by decide) rfl rfl (by (rw [aup_k (by decide)]) <;> rfl) dX6_loadPattern_48 (fun r48 => ?_)
      refine aw_if_eq (tgt := 65) dX6_loadPattern_51 (by decide) (by first | assumption | omega) (fun c51 => ?_) (fun c51 => ?_)
      · have he0 : e = 0 := by omega
        obtain ⟨l3, lA, l1, lv⟩ := hok he0
        refine aw_aload_n (i := 0) (q := 0) dX6_loadPattern_65 rfl rfl ?_
        refine aw_getR (r := 23) flX6_46 SH_1 (by decide) rfl (rk_1_6 hR) dX6_loadPattern_66 ?_
        refine aw_iload_n (i := 1) (q := 1) dX6_loadPattern_69 rfl rfl ?_
        refine aw_aald (r := 40 + 2 * (w).toNat) SH_23 (by decide) (by decide) ⟨by omega, by omega⟩ (hR.2.2 _ (by omega) (by omega)) dX6_loadPattern_70 ?_
        refine aw_astore_n (i := 3) (lv' := [(0, .ref 1), (1, iI w), (2, iI t), (3, .ref (40 + 2 * (w).toNat))]) [1, 2, 3, 0] dX6_loadPattern_71 rfl (by decide) rfl ?_
        refine aw_aload_n (i := 0) (q := 0) dX6_loadPattern_72 rfl rfl ?_
        refine aw_getR (r := 18) flX6_40 SH_1 (by decide) rfl (rk_1_5 hR) dX6_loadPattern_73 ?_
        refine aw_getR (r := 20) flX6_190 SH_18 (by decide) rfl (rk_18_2 hR) dX6_loadPattern_76 ?_
        refine aw_iconst dX6_loadPattern_79 ?_
        refine aw_aload_n (i := 3) (q := 3) dX6_loadPattern_80 rfl rfl ?_
        refine aw_getR (r := 40 + 2 * (w).toNat + 1) flX6_193 (SH_pat ⟨by omega, by omega⟩).1 ⟨by omega, by omega⟩ rfl (rk_pat hR ⟨by omega, by omega⟩) dX6_loadPattern_81 ?_
        refine aw_iconst dX6_loadPattern_84 ?_
        refine aw_aload_n (i := 0) (q := 0) dX6_loadPattern_85 rfl rfl ?_
        refine aw_getR (r := 18) flX6_40 SH_1 (by decide) rfl (rk_1_5 hR) dX6_loadPattern_86 ?_
        refine aw_getIk (x := m1 18 3) 3 flX6_194 SH_18 (by decide) rfl rfl (by (rw [aup_k (by decide)]) <;> rfl) dX6_loadPattern_89 (fun r89 => ?_)
        refine aw_copy (st := []) acX6_195 SH_20 (by decide) (SH_pat ⟨by omega, by omega⟩).2 ⟨by omega, by omega⟩ (by omega) (by omega) (by omega) (by omega) (by omega) (Nat.le_of_ble_eq_true rfl) (by decide) dX6_loadPattern_92 ?_
        refine aw_aload_n (i := 3) (q := 3) dX6_loadPattern_95 rfl rfl ?_
        refine aw_aload_n (i := 0) (q := 0) dX6_loadPattern_96 rfl rfl ?_
        refine aw_getR (r := 18) flX6_40 SH_1 (by decide) rfl (rk_1_5 hR) dX6_loadPattern_97 ?_
        refine aw_getIk (x := m1 18 3) 3 flX6_194 SH_18 (by decide) rfl rfl (by (rw [acp_a (by omega), aup_k (by decide)]) <;> rfl) dX6_loadPattern_100 (fun r100 => ?_)
        refine aw_putIk 1 flX6_201 (SH_pat ⟨by omega, by omega⟩).1 ⟨by omega, by omega⟩ rfl rfl rfl (by first | assumption | omega) dX6_loadPattern_103 ?_
        refine aw_aload_n (i := 3) (q := 3) dX6_loadPattern_106 rfl rfl ?_
        refine aw_getIk (x := m1 18 3) 1 flX6_201 (SH_pat ⟨by omega, by omega⟩).1 ⟨by omega, by omega⟩ rfl rfl (by (rw [aup_eq]) <;> rfl) dX6_loadPattern_107 (fun r107 => ?_)
        exact aw_iret ⟨_, rfl, rfl, rfl, Or.inr ⟨⟨by omega, by omega⟩, Or.inr ⟨⟨by omega, by omega⟩, e, ep, o, hF, by rw [aup_a (by omega), acp_a (by omega), aup_eq], by rw [aup_a (by omega), acp_a (by omega), aup_k (by decide)]; exact he, by rw [aup_a (by omega), acp_a (by omega), aup_k (by decide)]; exact hep, Or.inr ⟨he0, l3, l1, lv, by rw [aup_eq]; exact l3, (fun i hi => by rw [aup_a (by omega), acp_in (by omega) (by omega), aup_a (by decide), show (0 : Int) + ((i : Int) - 0) = (i : Int) by omega]; exact lA i hi), fun x j a b c d u v => by rw [aup_a u, acp_a v, aup_a a]; exact hfr x j a b c d⟩⟩⟩⟩ (Nat.le_refl _) (Nat.le_refl _) dX6_loadPattern_110
      · refine aw_bipush (x := -30) dX6_loadPattern_54 rfl ?_
        refine aw_aload_n (i := 0) (q := 0) dX6_loadPattern_56 rfl rfl ?_
        refine aw_getR (r := 18) flX6_40 SH_1 (by decide) rfl (rk_1_5 hR) dX6_loadPattern_57 ?_
        refine aw_getIk (x := m1 18 4) 4 flX6_187 SH_18 (by decide) rfl rfl (by (rw [aup_k (by decide)]) <;> rfl) dX6_loadPattern_60 (fun r60 => ?_)
        refine aw_isub dX6_loadPattern_63 ?_
        exact aw_iret ⟨_, rfl, rfl, rfl, Or.inr ⟨⟨by omega, by omega⟩, Or.inr ⟨⟨by omega, by omega⟩, e, ep, o, hF, aup_eq _ _ _ _, by rw [aup_k (by decide)]; exact he, by rw [aup_k (by decide)]; exact hep, Or.inl ⟨by omega, by rw [he], fun x j a b c d => by rw [aup_a a]; exact hfr x j a b c d⟩⟩⟩⟩ (Nat.le_refl _) (Nat.le_refl _) dX6_loadPattern_64
    · refine aw_bipush (x := -3) dX6_loadPattern_25 rfl ?_
      exact aw_iret ⟨_, rfl, rfl, rfl, Or.inr ⟨⟨by omega, by omega⟩, Or.inl ⟨by omega, rfl, rfl⟩⟩⟩ (Nat.le_refl _) (Nat.le_refl _) dX6_loadPattern_27
  · refine aw_bipush (x := -2) dX6_loadPattern_7 rfl ?_
    exact aw_iret ⟨_, rfl, rfl, rfl, Or.inl ⟨by omega, rfl, rfl⟩⟩ (Nat.le_refl _) (Nat.le_refl _) dX6_loadPattern_9
