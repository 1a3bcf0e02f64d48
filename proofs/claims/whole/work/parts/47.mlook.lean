-- part 47: the model: looksAtEntries (printed by wip/whole/gen/p47.py)
theorem mcA_o {m : aM} {i v : Int} {x : Nat} {j : Int} (h : x ≠ 85 ∨ j ≠ i) (h2 : x ≠ 58 ∨ j ≠ 43) : mcA m i v x j = m x j := by
  unfold mcA
  have e : aup m 85 i v x j = m x j := by rcases h with h | h; (exact aup_a h); (exact aup_k h)
  rcases h2 with q | q
  · rw [aup_a q]; exact e
  · rw [aup_k q]; exact e
theorem mcA_f (m : aM) (i v : Int) : mcA m i v 58 43 = m 58 43 + (if v = -1 then 1 else 0) := by unfold mcA; rw [aup_eq]
theorem mwR_fr {mi m : aM} {w T s W v : Int} (ho : mOk mi) (h : mwR mi m w T s W v) : frM mi m ∧ mOk m := by
  rcases h with ⟨-, -, rfl⟩ | ⟨-, h1, h2, -⟩
  · exact ⟨fun _ _ _ _ => rfl, ho⟩
  · exact ⟨h2, h1⟩
theorem mcR_fr {mi m : aM} {i r : Int} (ho : mOk mi) (h : mcR mi i r m) : (∀ (x : Nat) (j : Int), (x < 67 ∨ 70 < x) → (x ≠ 58 ∨ (j ≠ 18 ∧ j ≠ 43)) → (x ≠ 85 ∨ j ≠ i) → (x ≠ 81 ∨ j ≠ i) → m x j = mi x j) ∧ mOk m ∧ (mi 58 43 ≤ m 58 43 ∧ m 58 43 ≤ mi 58 43 + 1) ∧ ((r = 0 ∧ m 81 i = mi 81 i) ∨ (r = 1 ∧ mi 82 i ≠ 0 ∧ mi 81 i + mi 82 i ≤ 100000 ∧ m 81 i = mi 81 i + mi 82 i)) := by
  obtain ⟨v, m1, h1, h2⟩ := h
  obtain ⟨f, o⟩ := mwR_fr ho h1
  have f43 : m1 58 43 = mi 58 43 := f _ _ (by omega) (by omega)
  have k43 := mcA_f m1 i v
  have oc : ∀ {m2 : aM}, (∀ (x : Nat) (j : Int), (67 ≤ x ∧ x ≤ 69) ∨ (x = 58 ∧ j = 18) → m2 x j = m1 x j) → mOk m2 := fun hm => mOk_congr (fun j => ⟨hm _ _ (by omega), hm _ _ (by omega), hm _ _ (by omega)⟩) (hm _ _ (by omega)) o
  rcases h2 with ⟨rfl, -, rfl⟩ | ⟨rfl, p1, p2, rfl⟩
  · refine ⟨fun x j a b c d => ?_, oc (fun x j a => mcA_o (by omega) (by omega)), ?_, Or.inl ⟨rfl, ?_⟩⟩
    · rw [mcA_o c (by omega)]; exact f _ _ a (by omega)
    · rw [k43, f43]; split <;> omega
    · rw [mcA_o (by omega) (by omega)]; exact f _ _ (by omega) (by omega)
  · refine ⟨fun x j a b c d => ?_, oc (fun x j a => by rw [aup_a (by omega)]; exact mcA_o (by omega) (by omega)), ?_, Or.inr ⟨rfl, p1, p2, ?_⟩⟩
    · have e : mcA m1 i v x j = mi x j := by rw [mcA_o c (by omega)]; exact f _ _ a (by omega)
      rcases d with d | d
      · rw [aup_a d]; exact e
      · rw [aup_k d]; exact e
    · rw [aup_a (by decide), k43, f43]; split <;> omega
    · rw [aup_eq]
/-- what the model's programme keeps -/
def pmI (m : aM) : Prop := mB m ∧ (1 ≤ m 58 7 ∧ m 58 7 ≤ 12) ∧ mOk m ∧ pM m ∧ (0 ≤ m 58 42 ∧ m 58 42 ≤ 8) ∧ ∀ i : Int, 0 ≤ i → i < m 58 42 → meOk m i
theorem pmI_fr {mi m : aM} (h : pmI mi) (f : ∀ (x : Nat) (j : Int), (x < 67 ∨ (70 < x ∧ x < 80) ∨ 85 < x) → (x ≠ 58 ∨ (j ≠ 18 ∧ j ≠ 43 ∧ j ≠ 42)) → m x j = mi x j) (ho : mOk m) (h42 : 0 ≤ m 58 42 ∧ m 58 42 ≤ 8) (he : ∀ i : Int, 0 ≤ i → i < m 58 42 → meOk m i) : pmI m := by
  obtain ⟨⟨a1, a2, a3⟩, b1, b2, b3, b4, b5⟩ := h
  refine ⟨⟨by rw [f 58 6 (by omega) (by omega)]; exact a1, by rw [f 58 9 (by omega) (by omega)]; exact a2, fun i i0 i1 => ?_⟩, by rw [f 58 7 (by omega) (by omega)]; exact b1, ho, fun w w0 w1 => ?_, h42, he⟩
  · rw [f 58 6 (by omega) (by omega)] at i1
    rw [f 59 i (by omega) (by omega), f 60 i (by omega) (by omega), f 61 i (by omega) (by omega), f 62 i (by omega) (by omega), f 63 i (by omega) (by omega), f 86 i (by omega) (by omega), f 87 i (by omega) (by omega), f 88 i (by omega) (by omega)]
    exact a3 i i0 i1
  · obtain ⟨p, q⟩ := b3 w w0 w1
    refine ⟨by rw [f 73 w (by omega) (by omega)]; exact p, fun k k0 k1 => ?_⟩
    rw [f 73 w (by omega) (by omega)] at k1
    rw [f 72 _ (by omega) (by omega)]
    exact q k k0 k1
theorem pmI_co {mi m : aM} {i r : Int} (h : pmI mi) (hi : 0 ≤ i ∧ i < mi 58 42) (hc : mcR mi i r m) : pmI m ∧ m 58 42 = mi 58 42 := by
  obtain ⟨f, o, k43, k1⟩ := mcR_fr h.2.2.1 hc
  have f42 : m 58 42 = mi 58 42 := f _ _ (by omega) (by omega) (by omega) (by omega)
  refine ⟨pmI_fr h (fun x j a b => f _ _ (by omega) (by omega) (by omega) (by omega)) o (by rw [f42]; exact h.2.2.2.2.1) (fun j j0 j1 => ?_), f42⟩
  have k := h.2.2.2.2.2 j j0 (by omega)
  unfold meOk at *
  rw [f 80 j (by omega) (by omega) (by omega) (by omega), f 82 j (by omega) (by omega) (by omega) (by omega), f 83 j (by omega) (by omega) (by omega) (by omega), f 84 j (by omega) (by omega) (by omega) (by omega)]
  refine ⟨k.1, ?_, k.2.2⟩
  by_cases q : j = i
  · subst q
    rcases k1 with ⟨-, e1⟩ | ⟨-, p1, p2, e1⟩
    · rw [e1]; exact k.2.1
    · rw [e1]; omega
  · rw [f 81 j (by omega) (by omega) (by omega) (by omega)]; exact k.2.1
theorem pmI_drop {mi m : aM} {i : Int} (h : pmI mi) (hi : 0 ≤ i ∧ i < mi 58 42) (hd : deI mi m i (mi 58 42 - 1)) : pmI m := by
  obtain ⟨h1, h2, h3⟩ := hd
  have h42 := h.2.2.2.2.1
  refine pmI_fr h (fun x j a b => h2 x j (by omega) (by omega)) (mOk_congr (fun j => ⟨h2 _ _ (by omega) (by omega), h2 _ _ (by omega) (by omega), h2 _ _ (by omega) (by omega)⟩) (h2 _ _ (by omega) (by omega)) h.2.2.1) (by omega) (fun j j0 j1 => ?_)
  have k1 := h.2.2.2.2.2
  unfold meOk at *
  rw [h3 80 j (by omega) (by omega), h3 81 j (by omega) (by omega), h3 82 j (by omega) (by omega), h3 83 j (by omega) (by omega), h3 84 j (by omega) (by omega)]
  by_cases q : i ≤ j ∧ j < mi 58 42 - 1
  · rw [if_pos q, if_pos q, if_pos q, if_pos q, if_pos q]; exact k1 (j + 1) (by omega) (by omega)
  · rw [if_neg q, if_neg q, if_neg q, if_neg q, if_neg q]; exact k1 j j0 (by omega)
/-- the model's look at the entries: k are left, the next is at i -/
def pmC : Nat → Int → aM → aM → Prop
  | 0, _, m, m' => m' = m
  | k + 1, i, m, m' => (m 58 9 + 100 < m 81 i ∧ pmC k (i + 1) m m') ∨ (¬ m 58 9 + 100 < m 81 i ∧ ∃ m1, mcR m i 1 m1 ∧ pmC k (i + 1) m1 m') ∨ (¬ m 58 9 + 100 < m 81 i ∧ ∃ m1 m2, mcR m i 0 m1 ∧ deI m1 m2 i (m1 58 42 - 1) ∧ pmC k i m2 m')
theorem l_mlook {mr : aR} (hR : Rok mr) {mi : aM} : ∀ (n : Nat) (m : aM) (i z : Int), pmI m → (0 ≤ i ∧ 0 ≤ z ∧ i + z = m 58 42) → (0 ≤ m 58 43 ∧ m 58 43 + z ≤ 900000) → (∀ m' : aM, pmC z.toNat i m m' → pmC (mi 58 42).toNat 0 mi m') → z < n → AWm RX7 cX7_looksAtEntries 2 6 (Pv mr (fun m => pmC (mi 58 42).toNat 0 mi m ∧ pmI m)) 2 [(0, .ref 58), (1, iI i)] [] m mr := by
  intro n
  induction n with
  | zero => intro m i z h2 h3 h4 h5 h6; omega
  | succ n ih =>
    intro m i z h2 h3 h4 h5 h6
    obtain ⟨k1, k2, k3, k4, k5, k6⟩ := id h2
    have hnw := k1.2.1
    refine aw_iload_n (i := 1) (q := 1) dX7_looksAtEntries_2 rfl rfl ?_
    refine aw_aload_n (i := 0) (q := 0) dX7_looksAtEntries_3 rfl rfl ?_
    refine aw_getIk (x := m 58 42) 42 flX7_277 SH_58 (by decide) rfl rfl rfl dX7_looksAtEntries_4 (fun r4 => ?_)
    refine aw_icmp_ge (tgt := 48) dX7_looksAtEntries_7 (by decide) (by first | assumption | omega) (by first | assumption | omega) (fun c7 => ?_) (fun c7 => ?_)
    · exact aw_vret ⟨rfl, rfl, rfl, (⟨h5 m (by rw [show z.toNat = 0 by omega]; rfl), h2⟩)⟩ (Nat.le_refl _) (Nat.le_refl _) dX7_looksAtEntries_48
    · have hk9 := k6 i (by omega) (by omega)
      have hk8 := hk9.2.1
      refine aw_aload_n (i := 0) (q := 0) dX7_looksAtEntries_10 rfl rfl ?_
      refine aw_getR (r := 81) flX7_84 SH_58 (by decide) rfl (rk_58_37 hR) dX7_looksAtEntries_11 ?_
      refine aw_iload_n (i := 1) (q := 1) dX7_looksAtEntries_14 rfl rfl ?_
      refine aw_ialdv (x := m 81 i) SH_81 (by decide) ⟨by omega, by omega⟩ rfl dX7_looksAtEntries_15 (fun r15 => ?_)
      refine aw_aload_n (i := 0) (q := 0) dX7_looksAtEntries_16 rfl rfl ?_
      refine aw_getIk (x := m 58 9) 9 flX7_158 SH_58 (by decide) rfl rfl rfl dX7_looksAtEntries_17 (fun r17 => ?_)
      refine aw_bipush (x := 100) dX7_looksAtEntries_20 rfl ?_
      refine aw_iadd dX7_looksAtEntries_22 ?_
      refine aw_icmp_gt (tgt := 34) dX7_looksAtEntries_23 (by decide) (by first | assumption | omega) (by first | assumption | omega) (fun c23 => ?_) (fun c23 => ?_)
      · refine aw_iinc (i := 1) (q := 1) (x := i) (lv' := [(0, .ref 58), (1, iI (i + 1))]) [1, 0] dX7_looksAtEntries_34 rfl (by decide) rfl ?_
        refine aw_goto (tgt := 2) dX7_looksAtEntries_37 (by decide) ?_
        exact ih m (i + 1) (z - 1) h2 (by omega) (by omega) (fun m' h => h5 m' (by have e9 : z.toNat = (z - 1).toNat + 1 := (by omega); rw [e9]; exact Or.inl ⟨by omega, h⟩)) (by omega)
      · refine aw_aload_n (i := 0) (q := 0) dX7_looksAtEntries_26 rfl rfl ?_
        refine aw_iload_n (i := 1) (q := 1) dX7_looksAtEntries_27 rfl rfl ?_
        refine aw_cVi (As := [iI i]) (st := []) clX7_291 (s_X7_carriesOut hR (by omega) (k6 i (by omega) (by omega)) k1 k3 k2 k4 (by omega)) SH_58 rfl (by decide) rfl rfl (Nat.le_of_ble_eq_true rfl) (by decide) (by decide) (Nat.le_refl _) (Nat.le_refl _) dX7_looksAtEntries_28 (fun v28 m1 hv28 => ?_)
        have hpc := pmI_co h2 ⟨by omega, by omega⟩ hv28
        have hcf := (mcR_fr k3 hv28).2.2.1
        have hk8 := hpc.1.2.2.2.2.1
        have h01 : v28 = 0 ∨ v28 = 1 := by obtain ⟨v, m9, -, q | q⟩ := hv28; (exact Or.inl q.1); (exact Or.inr q.1)
        refine aw_if_eq (tgt := 40) dX7_looksAtEntries_31 (by decide) (by first | assumption | omega) (fun c31 => ?_) (fun c31 => ?_)
        · refine aw_aload_n (i := 0) (q := 0) dX7_looksAtEntries_40 rfl rfl ?_
          refine aw_iload_n (i := 1) (q := 1) dX7_looksAtEntries_41 rfl rfl ?_
          refine aw_cVv (As := [iI i]) (st := []) clX7_285 (s_X7_dropsEntry (mi := m1) hR ⟨by omega, by omega⟩ (by omega)) SH_58 rfl (by decide) rfl rfl (Nat.le_of_ble_eq_true rfl) (by decide) (by decide) (Nat.le_refl _) (Nat.le_refl _) dX7_looksAtEntries_42 (fun m2 hd2 => ?_)
          have hpd := pmI_drop hpc.1 (i := i) ⟨by omega, by omega⟩ hd2
          have g42 := hd2.1
          have g43 : m2 58 43 = m1 58 43 := hd2.2.1 _ _ (by omega) (by omega)
          refine aw_goto (tgt := 2) dX7_looksAtEntries_45 (by decide) ?_
          exact ih m2 i (z - 1) hpd (by omega) (by omega) (fun m' h => h5 m' (by have e9 : z.toNat = (z - 1).toNat + 1 := (by omega); rw [e9]; exact Or.inr (Or.inr ⟨by omega, m1, m2, (by rw [← show v28 = 0 by omega]; exact hv28), hd2, h⟩))) (by omega)
        · refine aw_iinc (i := 1) (q := 1) (x := i) (lv' := [(0, .ref 58), (1, iI (i + 1))]) [1, 0] dX7_looksAtEntries_34 rfl (by decide) rfl ?_
          refine aw_goto (tgt := 2) dX7_looksAtEntries_37 (by decide) ?_
          exact ih m1 (i + 1) (z - 1) hpc.1 (by rw [hpc.2]; omega) (by omega) (fun m' h => h5 m' (by have e9 : z.toNat = (z - 1).toNat + 1 := (by omega); rw [e9]; exact Or.inr (Or.inl ⟨by omega, m1, (by rw [← show v28 = 1 by omega]; exact hv28), h⟩))) (by omega)
theorem s_X7_looksAtEntries {mr : aR} (hR : Rok mr) {mi : aM} (hpg : pmI mi) (hfl : 0 ≤ mi 58 43 ∧ mi 58 43 + 8 ≤ 900000) : SPg yX7_looksAtEntries cX7_looksAtEntries 2 none 6 [.ref 58] mi mr (Pv mr (fun m => pmC (mi 58 42).toNat 0 mi m ∧ pmI m)) := by
  refine SPg.void rfl (by decide +kernel) (Nat.le_of_ble_eq_true rfl) ?_
  show AWm RX7 cX7_looksAtEntries 2 6 _ 0 [(0, .ref 58)] [] mi mr
  have k5 := hpg.2.2.2.2.1
  refine aw_iconst dX7_looksAtEntries_0 ?_
  refine aw_istore_n (i := 1) (lv' := [(0, .ref 58), (1, iI 0)]) [1, 0] dX7_looksAtEntries_1 rfl (by decide) rfl ?_
  exact l_mlook hR ((mi 58 42).toNat + 1) mi 0 (mi 58 42) hpg (by omega) (by omega) (fun m' h => h) (by omega)
