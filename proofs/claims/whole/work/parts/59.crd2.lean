-- part 59: the reader of the class: groups, read; loadPattern (printed by wip/whole/gen/p59.py)
theorem RQ_at {m : aM} {p P : Int} {o : List Int} {k : rSt} (h : RQc m (p, o, k)) : RQc (aup m 18 7 P) (P, o, k) := by
  obtain ⟨h1, h2, h3, h4, h5⟩ := h
  refine ⟨aup_eq _ _ _ _, ?_, AR_congr h3 (fun j => aup_a (by decide)), ?_, SV_congr k (fun j _ => ⟨aup_a (by decide), aup_a (by decide)⟩) h5⟩
  · rw [aup_k (by decide)]; exact h2
  · rw [aup_k (by decide)]; exact h4
theorem RQ_open {m : aM} {p : Int} {o : List Int} {k : rSt} (h : RQc m (p, o, k)) : RQc (aup (aup (aup (aup m 21 (m 18 8) p) 22 (m 18 8) (m 18 3)) 18 8 (m 18 8 + 1)) 18 7 (p + 1)) (p + 1, o, (p, o.length) :: k) := by
  obtain ⟨h1, h2, h3, h4, h5⟩ := h
  have h2 : m 18 3 = (o.length : Int) := h2
  have h4 : m 18 8 = (k.length : Int) := h4
  refine ⟨aup_eq _ _ _ _, ?_, AR_congr h3 (fun j => by rw [aup_a (by decide), aup_a (by decide), aup_a (by decide), aup_a (by decide)]), ?_, ?_, ?_, ?_⟩
  · rw [aup_k (by decide), aup_k (by decide), aup_a (by decide), aup_a (by decide)]; exact h2
  · rw [aup_k (by decide), aup_eq, h4]; show _ = (((p, o.length) :: k : rSt).length : Int); rw [List.length_cons]; omega
  · rw [aup_a (by decide), aup_a (by decide), aup_a (by decide), h4, aup_eq]
  · rw [aup_a (by decide), aup_a (by decide), h4, aup_eq]; exact h2
  · refine SV_congr k (fun j hj => ?_) h5
    rw [aup_a (by decide), aup_a (by decide), aup_a (by decide), aup_k (by omega), aup_a (by decide), aup_a (by decide), aup_k (by omega), aup_a (by decide)]
    exact ⟨rfl, rfl⟩
theorem s_X3_openGroup {mr : aR} (hR : Rok mr) {mi : aM} {p0 : Int} {o : List Int} {k : rSt} (hE : 0 ≤ mi 18 6 ∧ mi 18 6 ≤ 300) (hw : wfQ (mi 18 6) (p0, o, k)) (hq : RQc mi (p0, o, k)) (h4 : mi 18 4 = 0) (hs : sgC mi p0 = 40) : SPg yX3_openGroup cX3_openGroup 1 none 2 [.ref 18] mi mr (Pv mr (fun m => stR mi (p0, o, k) m)) := by
  refine SPg.void rfl (by decide +kernel) (Nat.le_of_ble_eq_true rfl) ?_
  show AWm RX3 cX3_openGroup 1 2 _ 0 [(0, .ref 18)] [] mi mr
  have h7 : mi 18 7 = p0 := hq.1
  have h3 : mi 18 3 = (o.length : Int) := hq.2.1
  have h8 : mi 18 8 = (k.length : Int) := hq.2.2.2.1
  have hk3 : k.length ≤ 3 := hw.2.2.2.1
  have ho : o.length ≤ 100 := hw.2.2.1
  have hpl := sgC_lt (m := mi) (p := p0) (by omega)
  refine aw_aload_n (i := 0) (q := 0) dX3_openGroup_0 rfl rfl ?_
  refine aw_getIk (x := mi 18 8) 8 flX3_37 SH_18 (by decide) rfl rfl rfl dX3_openGroup_1 (fun r1 => ?_)
  refine aw_iconst dX3_openGroup_4 ?_
  refine aw_icmp_lt (tgt := 18) dX3_openGroup_5 (by decide) (by first | assumption | omega) (by decide) (fun c5 => ?_) (fun c5 => ?_)
  · refine aw_aload_n (i := 0) (q := 0) dX3_openGroup_18 rfl rfl ?_
    refine aw_getR (r := 21) flX3_40 SH_18 (by decide) rfl (rk_18_9 hR) dX3_openGroup_19 ?_
    refine aw_aload_n (i := 0) (q := 0) dX3_openGroup_22 rfl rfl ?_
    refine aw_getIk (x := mi 18 8) 8 flX3_37 SH_18 (by decide) rfl rfl rfl dX3_openGroup_23 (fun r23 => ?_)
    refine aw_aload_n (i := 0) (q := 0) dX3_openGroup_26 rfl rfl ?_
    refine aw_getIk (x := p0) 7 flX3_34 SH_18 (by decide) rfl rfl h7 dX3_openGroup_27 (fun r27 => ?_)
    refine aw_iast SH_21 (by decide) ⟨by omega, by omega⟩ (by first | assumption | omega) dX3_openGroup_30 ?_
    refine aw_aload_n (i := 0) (q := 0) dX3_openGroup_31 rfl rfl ?_
    refine aw_getR (r := 22) flX3_43 SH_18 (by decide) rfl (rk_18_10 hR) dX3_openGroup_32 ?_
    refine aw_aload_n (i := 0) (q := 0) dX3_openGroup_35 rfl rfl ?_
    refine aw_getIk (x := mi 18 8) 8 flX3_37 SH_18 (by decide) rfl rfl (by (rw [aup_a (by decide)]) <;> rfl) dX3_openGroup_36 (fun r36 => ?_)
    refine aw_aload_n (i := 0) (q := 0) dX3_openGroup_39 rfl rfl ?_
    refine aw_getIk (x := mi 18 3) 3 flX3_22 SH_18 (by decide) rfl rfl (by (rw [aup_a (by decide)]) <;> rfl) dX3_openGroup_40 (fun r40 => ?_)
    refine aw_iast SH_22 (by decide) ⟨by omega, by omega⟩ (by first | assumption | omega) dX3_openGroup_43 ?_
    refine aw_aload_n (i := 0) (q := 0) dX3_openGroup_44 rfl rfl ?_
    refine aw_dup dX3_openGroup_45 rfl ?_
    refine aw_getIk (x := mi 18 8) 8 flX3_37 SH_18 (by decide) rfl rfl (by (rw [aup_a (by decide), aup_a (by decide)]) <;> rfl) dX3_openGroup_46 (fun r46 => ?_)
    refine aw_iconst dX3_openGroup_49 ?_
    refine aw_iadd dX3_openGroup_50 ?_
    refine aw_putIk 8 flX3_37 SH_18 (by decide) rfl rfl rfl (by first | assumption | omega) dX3_openGroup_51 ?_
    refine aw_aload_n (i := 0) (q := 0) dX3_openGroup_54 rfl rfl ?_
    refine aw_dup dX3_openGroup_55 rfl ?_
    refine aw_getIk (x := p0) 7 flX3_34 SH_18 (by decide) rfl rfl (by rw [aup_k (by decide), aup_a (by decide), aup_a (by decide)]; exact h7) dX3_openGroup_56 (fun r56 => ?_)
    refine aw_iconst dX3_openGroup_59 ?_
    refine aw_iadd dX3_openGroup_60 ?_
    refine aw_putIk 7 flX3_34 SH_18 (by decide) rfl rfl rfl (by first | assumption | omega) dX3_openGroup_61 ?_
    exact aw_vret ⟨rfl, rfl, rfl, ⟨(frR_k (k := 7) (v := p0 + 1) (by decide) (by decide) (frR_k (k := 8) (v := (mi 18 8) + 1) (by decide) (by decide) (frR_a (a := 22) (k := mi 18 8) (v := mi 18 3) (by decide) (frR_a (a := 21) (k := mi 18 8) (v := p0) (by decide) (frR_rfl mi))))), 0, -1, _, rs_open hs (by omega), Or.inl ⟨rfl, rfl, RQ_open hq, by rw [aup_k (by decide), aup_k (by decide), aup_a (by decide), aup_a (by decide)]; exact h4, by rw [aup_k (by decide), aup_k (by decide), aup_a (by decide), aup_a (by decide)]⟩⟩⟩ (Nat.le_refl _) (Nat.le_refl _) dX3_openGroup_64
  · refine aw_aload_n (i := 0) (q := 0) dX3_openGroup_8 rfl rfl ?_
    refine aw_iconst dX3_openGroup_9 ?_
    refine aw_aload_n (i := 0) (q := 0) dX3_openGroup_10 rfl rfl ?_
    refine aw_getIk (x := p0) 7 flX3_34 SH_18 (by decide) rfl rfl h7 dX3_openGroup_11 (fun r11 => ?_)
    refine aw_cVv (As := [iI 3, iI p0]) (st := []) clX3_55 (s_X3_fail hR (by decide) (by omega)) SH_18 rfl (by decide) rfl rfl (Nat.le_of_ble_eq_true rfl) (by decide) (by decide) (Nat.le_refl _) (Nat.le_refl _) dX3_openGroup_14 (fun m9 hm9 => ?_)
    subst hm9
    exact aw_vret ⟨rfl, rfl, rfl, ⟨(frR_k (k := 5) (v := p0) (by decide) (by decide) (frR_k (k := 4) (v := 3) (by decide) (by decide) (frR_rfl mi))), 3, p0, _, rs_open3 hs (by omega), Or.inr ⟨by decide, by rw [aup_k (by decide), aup_eq], aup_eq _ _ _ _⟩⟩⟩ (Nat.le_refl _) (Nat.le_refl _) dX3_openGroup_17
theorem rep_len {o : List Int} {g : Nat} {N : Int} (hg : g ≤ o.length) (hN : 1 ≤ N) (h : ¬ 100 < (g : Int) + ((o.length : Int) - (g : Int)) * N) (c : Nat) (hc : c ≤ (N - 1).toNat) : (o ++ repL (o.drop g) c).length = o.length + c * (o.length - g) ∧ o.length + c * (o.length - g) ≤ 100 := by
  have e1 : ((o.length : Int) - (g : Int)) * N = (((o.length - g) * ((N - 1).toNat + 1) : Nat) : Int) := by
    rw [Int.natCast_mul]
    congr 1
    · omega
    · omega
  rw [e1, Nat.mul_add, Nat.mul_one] at h
  have h2 : c * (o.length - g) ≤ (N - 1).toNat * (o.length - g) := Nat.mul_le_mul_right _ hc
  rw [Nat.mul_comm (o.length - g)] at h
  rw [List.length_append, repL_len, List.length_drop]
  omega
theorem AR_rep {m : aM} {o : List Int} {g c : Nat} (h : AR m 20 (o ++ repL (o.drop g) c)) (hg : g ≤ o.length) : AR (acp m 20 (g : Int) 20 ((o ++ repL (o.drop g) c).length : Int) ((o.length : Int) - (g : Int))) 20 (o ++ repL (o.drop g) (c + 1)) := by
  rw [repL_snoc, ← List.append_assoc]
  refine AR_app h (fun i hi => ?_) (fun j hj => ?_)
  · unfold acp
    rw [if_neg (by omega)]
  · rw [List.length_drop] at hj
    rw [acp_in (by omega) (by omega), show (g : Int) + ((((o ++ repL (o.drop g) c).length + j : Nat) : Int) - ((o ++ repL (o.drop g) c).length : Int)) = ((g + j : Nat) : Int) by omega]
    exact AR_drop (AR_left h) j (by rw [List.length_drop]; exact hj)
theorem l_rep {mr : aR} (hR : Rok mr) {mi : aM} {o : List Int} {g : Int × Nat} {i N : Int} (hg : g.2 ≤ o.length ∧ o.length ≤ 100) (h3 : mi 18 3 = (o.length : Int)) (ha : AR mi 20 o) (hi : 0 ≤ i ∧ i < 3) (h21 : mi 21 i = g.1) (h22 : mi 22 i = (g.2 : Int)) (hgr : 0 ≤ g.1 ∧ g.1 ≤ 300) (hN : 1 ≤ N ∧ N ≤ 20) (hov : ¬ 100 < (g.2 : Int) + ((o.length : Int) - g.2) * N) : ∀ (n : Nat) (m : aM) (z : Int) (c : Nat), (m 18 3 = ((o ++ repL (o.drop g.2) c).length : Int) ∧ AR m 20 (o ++ repL (o.drop g.2) c) ∧ ∀ (x : Nat) (j : Int), x ≠ 20 → (x ≠ 18 ∨ j ≠ 3) → m x j = mi x j) → z = (c : Int) + 1 → (1 ≤ z ∧ z ≤ N) → N - z < n → AWm RX3 cX3_repeatGroup 6 2 (Pv mr (fun m => (100 < (g.2 : Int) + ((o.length : Int) - g.2) * N ∧ m = aup (aup mi 18 4 4) 18 5 g.1) ∨ (¬ 100 < (g.2 : Int) + ((o.length : Int) - g.2) * N ∧ m 18 3 = ((o ++ repL (o.drop g.2) (N - 1).toNat).length : Int) ∧ AR m 20 (o ++ repL (o.drop g.2) (N - 1).toNat) ∧ ∀ (x : Nat) (j : Int), x ≠ 20 → (x ≠ 18 ∨ j ≠ 3) → m x j = mi x j))) 41 [(0, .ref 18), (1, iI i), (2, iI N), (3, iI ((g.2 : Int))), (4, iI (((o.length : Int) - (g.2 : Int)))), (5, iI z)] [] m mr := by
  intro n
  induction n with
  | zero => intro m z c hI hz h2 h4; omega
  | succ n ih =>
    intro m z c hI hz h2 h4
    refine aw_iload (i := 5) (q := 5) dX3_repeatGroup_41 rfl ?_
    refine aw_iload_n (i := 2) (q := 2) dX3_repeatGroup_43 rfl rfl ?_
    refine aw_icmp_ge (tgt := 82) dX3_repeatGroup_44 (by decide) (by first | assumption | omega) (by first | assumption | omega) (fun c44 => ?_) (fun c44 => ?_)
    · exact aw_vret ⟨rfl, rfl, rfl, (Or.inr ⟨hov, by rw [show (N - 1).toNat = c by omega]; exact hI.1, by rw [show (N - 1).toNat = c by omega]; exact hI.2.1, hI.2.2⟩)⟩ (Nat.le_refl _) (Nat.le_refl _) dX3_repeatGroup_82
    · have rep1 := rep_len (o := o) hg.1 hN.1 hov c (by omega)
      have rep2 := rep_len (o := o) hg.1 hN.1 hov (c + 1) (by omega)
      have rep3 : (c + 1) * (o.length - g.2) = c * (o.length - g.2) + (o.length - g.2) := by rw [Nat.add_mul]; omega
      have h3m : m 18 3 = ((o ++ repL (o.drop g.2) c).length : Int) := hI.1
      refine aw_aload_n (i := 0) (q := 0) dX3_repeatGroup_47 rfl rfl ?_
      refine aw_getR (r := 20) flX3_19 SH_18 (by decide) rfl (rk_18_2 hR) dX3_repeatGroup_48 ?_
      refine aw_iload_n (i := 3) (q := 3) dX3_repeatGroup_51 rfl rfl ?_
      refine aw_aload_n (i := 0) (q := 0) dX3_repeatGroup_52 rfl rfl ?_
      refine aw_getR (r := 20) flX3_19 SH_18 (by decide) rfl (rk_18_2 hR) dX3_repeatGroup_53 ?_
      refine aw_aload_n (i := 0) (q := 0) dX3_repeatGroup_56 rfl rfl ?_
      refine aw_getIk (x := m 18 3) 3 flX3_22 SH_18 (by decide) rfl rfl rfl dX3_repeatGroup_57 (fun r57 => ?_)
      refine aw_iload (i := 4) (q := 4) dX3_repeatGroup_60 rfl ?_
      refine aw_copy (st := []) acX3_86 SH_20 (by decide) SH_20 (by decide) (by omega) (by omega) (by omega) (by omega) (by omega) (Nat.le_of_ble_eq_true rfl) (by decide) dX3_repeatGroup_62 ?_
      refine aw_aload_n (i := 0) (q := 0) dX3_repeatGroup_65 rfl rfl ?_
      refine aw_dup dX3_repeatGroup_66 rfl ?_
      refine aw_getIk (x := m 18 3) 3 flX3_22 SH_18 (by decide) rfl rfl (by (rw [acp_a (by decide)]) <;> rfl) dX3_repeatGroup_67 (fun r67 => ?_)
      refine aw_iload (i := 4) (q := 4) dX3_repeatGroup_70 rfl ?_
      refine aw_iadd dX3_repeatGroup_72 ?_
      refine aw_putIk 3 flX3_22 SH_18 (by decide) rfl rfl rfl (by first | assumption | omega) dX3_repeatGroup_73 ?_
      refine aw_iinc (i := 5) (q := 5) (x := z) (lv' := [(0, .ref 18), (1, iI i), (2, iI N), (3, iI ((g.2 : Int))), (4, iI (((o.length : Int) - (g.2 : Int)))), (5, iI (z + 1))]) [1, 2, 3, 4, 5, 0] dX3_repeatGroup_76 rfl (by decide) rfl ?_
      refine aw_goto (tgt := 41) dX3_repeatGroup_79 (by decide) ?_
      exact ih _ (z + 1) (c + 1) ⟨by rw [aup_eq, h3m, rep2.1, rep1.1, rep3]; omega, AR_congr (AR_rep (by exact hI.2.1) hg.1) (fun j => by rw [aup_a (by decide), h3m]), fun x j a b => by (have e1 : ∀ v : Int, aup (acp m 20 (g.2 : Int) 20 (m 18 3) ((o.length : Int) - (g.2 : Int))) 18 3 v x j = m x j := fun v => by rcases b with b | b; (rw [aup_a b, acp_a a]); (rw [aup_k b, acp_a a])); rw [e1]; exact hI.2.2 x j a b⟩ (by omega) (by omega) (by omega)
theorem s_X3_repeatGroup {mr : aR} (hR : Rok mr) {mi : aM} {o : List Int} {g : Int × Nat} {i N : Int} (hg : g.2 ≤ o.length ∧ o.length ≤ 100) (h3 : mi 18 3 = (o.length : Int)) (ha : AR mi 20 o) (hi : 0 ≤ i ∧ i < 3) (h21 : mi 21 i = g.1) (h22 : mi 22 i = (g.2 : Int)) (hgr : 0 ≤ g.1 ∧ g.1 ≤ 300) (hN : 1 ≤ N ∧ N ≤ 20) : SPg yX3_repeatGroup cX3_repeatGroup 6 none 2 [.ref 18, iI i, iI N] mi mr (Pv mr (fun m => (100 < (g.2 : Int) + ((o.length : Int) - g.2) * N ∧ m = aup (aup mi 18 4 4) 18 5 g.1) ∨ (¬ 100 < (g.2 : Int) + ((o.length : Int) - g.2) * N ∧ m 18 3 = ((o ++ repL (o.drop g.2) (N - 1).toNat).length : Int) ∧ AR m 20 (o ++ repL (o.drop g.2) (N - 1).toNat) ∧ ∀ (x : Nat) (j : Int), x ≠ 20 → (x ≠ 18 ∨ j ≠ 3) → m x j = mi x j))) := by
  refine SPg.void rfl (by decide +kernel) (Nat.le_of_ble_eq_true rfl) ?_
  show AWm RX3 cX3_repeatGroup 6 2 _ 0 [(0, .ref 18), (1, iI i), (2, iI N)] [] mi mr
  have hm9 := mul_rng (x := ((o.length : Int) - (g.2 : Int))) (y := N) (A := 100) (B := 20) (by omega) (by omega) (by decide) (by decide)
  refine aw_aload_n (i := 0) (q := 0) dX3_repeatGroup_0 rfl rfl ?_
  refine aw_getR (r := 22) flX3_43 SH_18 (by decide) rfl (rk_18_10 hR) dX3_repeatGroup_1 ?_
  refine aw_iload_n (i := 1) (q := 1) dX3_repeatGroup_4 rfl rfl ?_
  refine aw_ialdv (x := (g.2 : Int)) SH_22 (by decide) ⟨by omega, by omega⟩ h22 dX3_repeatGroup_5 (fun r5 => ?_)
  refine aw_istore_n (i := 3) (lv' := [(0, .ref 18), (1, iI i), (2, iI N), (3, iI ((g.2 : Int)))]) [1, 2, 3, 0] dX3_repeatGroup_6 rfl (by decide) rfl ?_
  refine aw_aload_n (i := 0) (q := 0) dX3_repeatGroup_7 rfl rfl ?_
  refine aw_getIk (x := (o.length : Int)) 3 flX3_22 SH_18 (by decide) rfl rfl h3 dX3_repeatGroup_8 (fun r8 => ?_)
  refine aw_iload_n (i := 3) (q := 3) dX3_repeatGroup_11 rfl rfl ?_
  refine aw_isub dX3_repeatGroup_12 ?_
  refine aw_istore (i := 4) (lv' := [(0, .ref 18), (1, iI i), (2, iI N), (3, iI ((g.2 : Int))), (4, iI (((o.length : Int)) - ((g.2 : Int))))]) [1, 2, 3, 4, 0] dX3_repeatGroup_13 (by decide) rfl ?_
  refine aw_iload_n (i := 3) (q := 3) dX3_repeatGroup_15 rfl rfl ?_
  refine aw_iload (i := 4) (q := 4) dX3_repeatGroup_16 rfl ?_
  refine aw_iload_n (i := 2) (q := 2) dX3_repeatGroup_18 rfl rfl ?_
  refine aw_imul dX3_repeatGroup_19 ?_
  refine aw_iadd dX3_repeatGroup_20 ?_
  refine aw_bipush (x := 100) dX3_repeatGroup_21 rfl ?_
  refine aw_icmp_le (tgt := 38) dX3_repeatGroup_23 (by decide) (by first | assumption | omega) (by decide) (fun c23 => ?_) (fun c23 => ?_)
  · refine aw_iconst dX3_repeatGroup_38 ?_
    refine aw_istore (i := 5) (lv' := [(0, .ref 18), (1, iI i), (2, iI N), (3, iI ((g.2 : Int))), (4, iI (((o.length : Int)) - ((g.2 : Int)))), (5, iI 1)]) [1, 2, 3, 4, 5, 0] dX3_repeatGroup_39 (by decide) rfl ?_
    exact l_rep hR hg h3 ha hi h21 h22 hgr hN (by omega) (N.toNat + 1) mi 1 0 ⟨by rw [show repL (o.drop g.2) 0 = [] from rfl, List.append_nil]; exact h3, by rw [show repL (o.drop g.2) 0 = [] from rfl, List.append_nil]; exact ha, fun _ _ _ _ => rfl⟩ rfl (by omega) (by omega)
  · refine aw_aload_n (i := 0) (q := 0) dX3_repeatGroup_26 rfl rfl ?_
    refine aw_iconst dX3_repeatGroup_27 ?_
    refine aw_aload_n (i := 0) (q := 0) dX3_repeatGroup_28 rfl rfl ?_
    refine aw_getR (r := 21) flX3_40 SH_18 (by decide) rfl (rk_18_9 hR) dX3_repeatGroup_29 ?_
    refine aw_iload_n (i := 1) (q := 1) dX3_repeatGroup_32 rfl rfl ?_
    refine aw_ialdv (x := g.1) SH_21 (by decide) ⟨by omega, by omega⟩ h21 dX3_repeatGroup_33 (fun r33 => ?_)
    refine aw_cVv (As := [iI 4, iI g.1]) (st := []) clX3_55 (s_X3_fail hR (by decide) (by omega)) SH_18 rfl (by decide) rfl rfl (Nat.le_of_ble_eq_true rfl) (by decide) (by decide) (Nat.le_refl _) (Nat.le_refl _) dX3_repeatGroup_34 (fun m9 hm9 => ?_)
    subst hm9
    exact aw_vret ⟨rfl, rfl, rfl, (Or.inl ⟨by omega, rfl⟩)⟩ (Nat.le_refl _) (Nat.le_refl _) dX3_repeatGroup_37
theorem RQ_pop {m : aM} {p : Int} {o : List Int} {g : Int × Nat} {k : rSt} {v : Int} (h : RQc m (p, o, g :: k)) (hv : v = (k.length : Int)) : RQc (aup m 18 8 v) (p, o, k) ∧ m 21 v = g.1 ∧ m 22 v = (g.2 : Int) := by
  obtain ⟨h1, h2, h3, h4, h5, h6, h7⟩ := h
  subst hv
  refine ⟨⟨?_, ?_, AR_congr h3 (fun j => aup_a (by decide)), aup_eq _ _ _ _, SV_congr k (fun j _ => ⟨aup_a (by decide), aup_a (by decide)⟩) h7⟩, h5, h6⟩
  · rw [aup_k (by decide)]; exact h1
  · rw [aup_k (by decide)]; exact h2
theorem s_close1 {mr : aR} (hR : Rok mr) {mi : aM} {p0 : Int} {o : List Int} {g : Int × Nat} {k : rSt} (hE : 0 ≤ mi 18 6 ∧ mi 18 6 ≤ 300) (hw : wfQ (mi 18 6) (p0, o, g :: k)) (hq : RQc mi (p0, o, g :: k)) (h4 : mi 18 4 = 0) (hs : sgC mi p0 = 41) : SPg yX3_closeGroup cX3_closeGroup 2 none 3 [.ref 18] mi mr (Pv mr (fun m => stR mi (p0, o, g :: k) m)) := by
  refine SPg.void rfl (by decide +kernel) (Nat.le_of_ble_eq_true rfl) ?_
  show AWm RX3 cX3_closeGroup 2 3 _ 0 [(0, .ref 18)] [] mi mr
  have h7 : mi 18 7 = p0 := hq.1
  have h3 : mi 18 3 = (o.length : Int) := hq.2.1
  have h8 : mi 18 8 = (k.length : Int) + 1 := by have e : mi 18 8 = ((g :: k).length : Int) := hq.2.2.2.1; rw [List.length_cons] at e; omega
  have hk3 : (g :: k).length ≤ 3 := hw.2.2.2.1
  rw [List.length_cons] at hk3
  have ho : o.length ≤ 100 := hw.2.2.1
  have hpl := sgC_lt (m := mi) (p := p0) (by omega)
  have hpop := RQ_pop hq (v := mi 18 8 - 1) (by omega)
  have hg9 : 0 ≤ g.1 ∧ g.1 ≤ 300 ∧ g.2 ≤ o.length := hw.2.2.2.2.2 g List.mem_cons_self
  refine aw_aload_n (i := 0) (q := 0) dX3_closeGroup_0 rfl rfl ?_
  refine aw_getIk (x := mi 18 8) 8 flX3_37 SH_18 (by decide) rfl rfl rfl dX3_closeGroup_1 (fun r1 => ?_)
  refine aw_iconst dX3_closeGroup_4 ?_
  refine aw_icmp_ge (tgt := 18) dX3_closeGroup_5 (by decide) (by first | assumption | omega) (by decide) (fun c5 => ?_) (fun c5 => ?_)
  · refine aw_aload_n (i := 0) (q := 0) dX3_closeGroup_18 rfl rfl ?_
    refine aw_dup dX3_closeGroup_19 rfl ?_
    refine aw_getIk (x := mi 18 8) 8 flX3_37 SH_18 (by decide) rfl rfl rfl dX3_closeGroup_20 (fun r20 => ?_)
    refine aw_iconst dX3_closeGroup_23 ?_
    refine aw_isub dX3_closeGroup_24 ?_
    refine aw_putIk 8 flX3_37 SH_18 (by decide) rfl rfl rfl (by first | assumption | omega) dX3_closeGroup_25 ?_
    refine aw_aload_n (i := 0) (q := 0) dX3_closeGroup_28 rfl rfl ?_
    refine aw_getIk (x := (o.length : Int)) 3 flX3_22 SH_18 (by decide) rfl rfl (by rw [aup_k (by decide)]; exact h3) dX3_closeGroup_29 (fun r29 => ?_)
    refine aw_aload_n (i := 0) (q := 0) dX3_closeGroup_32 rfl rfl ?_
    refine aw_getR (r := 22) flX3_43 SH_18 (by decide) rfl (rk_18_10 hR) dX3_closeGroup_33 ?_
    refine aw_aload_n (i := 0) (q := 0) dX3_closeGroup_36 rfl rfl ?_
    refine aw_getIk (x := (mi 18 8) - 1) 8 flX3_37 SH_18 (by decide) rfl rfl (by (rw [aup_eq]) <;> rfl) dX3_closeGroup_37 (fun r37 => ?_)
    refine aw_ialdv (x := mi 22 ((mi 18 8) - 1)) SH_22 (by decide) ⟨by omega, by omega⟩ (by (rw [aup_a (by decide)]) <;> rfl) dX3_closeGroup_40 (fun r40 => ?_)
    refine aw_icmp_ne (tgt := 54) dX3_closeGroup_41 (by decide) (by first | assumption | omega) (by first | assumption | omega) (fun c41 => ?_) (fun c41 => ?_)
    · refine aw_aload_n (i := 0) (q := 0) dX3_closeGroup_54 rfl rfl ?_
      refine aw_dup dX3_closeGroup_55 rfl ?_
      refine aw_getIk (x := p0) 7 flX3_34 SH_18 (by decide) rfl rfl (by rw [aup_k (by decide)]; exact h7) dX3_closeGroup_56 (fun r56 => ?_)
      refine aw_iconst dX3_closeGroup_59 ?_
      refine aw_iadd dX3_closeGroup_60 ?_
      refine aw_putIk 7 flX3_34 SH_18 (by decide) rfl rfl rfl (by first | assumption | omega) dX3_closeGroup_61 ?_
      refine aw_aload_n (i := 0) (q := 0) dX3_closeGroup_64 rfl rfl ?_
      refine aw_aload_n (i := 0) (q := 0) dX3_closeGroup_65 rfl rfl ?_
      refine aw_getIk (x := p0 + 1) 7 flX3_34 SH_18 (by decide) rfl rfl (by (rw [aup_eq]) <;> rfl) dX3_closeGroup_66 (fun r66 => ?_)
      refine aw_cVp (As := [iI (p0 + 1)]) (st := []) clX3_59 (s_X3_signAt hR (by rw [(frR_k (k := 7) (v := p0 + 1) (by decide) (by decide) (frR_k (k := 8) (v := (mi 18 8) - 1) (by decide) (by decide) (frR_rfl mi))).2.2]; exact hE) (by omega)) SH_18 rfl (by decide) rfl rfl (Nat.le_of_ble_eq_true rfl) (by decide) (by decide) (Nat.le_refl _) (Nat.le_refl _) dX3_closeGroup_69 (fun v69 hv69 => ?_)
      obtain ⟨hv69, hv69a, hv69b⟩ := hv69
      rw [sgC_fr (frR_k (k := 7) (v := p0 + 1) (by decide) (by decide) (frR_k (k := 8) (v := (mi 18 8) - 1) (by decide) (by decide) (frR_rfl mi)))] at hv69
      refine aw_cSp (As := [iI v69]) (st := []) clX3_76 (s_X3_isDigit hR (by omega)) rfl rfl (Nat.le_of_ble_eq_true rfl) (by decide) (by decide) (Nat.le_refl _) (Nat.le_refl _) dX3_closeGroup_72 (fun v72 hv72 => ?_)
      refine aw_if_ne (tgt := 88) dX3_closeGroup_75 (by decide) (by first | assumption | omega) (fun c75 => ?_) (fun c75 => ?_)
      · refine aw_aload_n (i := 0) (q := 0) dX3_closeGroup_88 rfl rfl ?_
        refine aw_cVi (As := []) (st := []) clX3_79 (s_X3_readNumber (p := p0 + 1) hR (by rw [(frR_k (k := 7) (v := p0 + 1) (by decide) (by decide) (frR_k (k := 8) (v := (mi 18 8) - 1) (by decide) (by decide) (frR_rfl mi))).2.2]; exact hE) (by rw [sgC_fr (frR_k (k := 7) (v := p0 + 1) (by decide) (by decide) (frR_k (k := 8) (v := (mi 18 8) - 1) (by decide) (by decide) (frR_rfl mi))), ← hv69]; omega) (aup_eq _ _ _ _)) SH_18 rfl (by decide) rfl rfl (Nat.le_of_ble_eq_true rfl) (by decide) (by decide) (Nat.le_refl _) (Nat.le_refl _) dX3_closeGroup_89 (fun v89 m1 hv89 => ?_)
        unfold nuO at hv89
        rw [sgC_fr (frR_k (k := 7) (v := p0 + 1) (by decide) (by decide) (frR_k (k := 8) (v := (mi 18 8) - 1) (by decide) (by decide) (frR_rfl mi)))] at hv89
        obtain ⟨n1, n2, n3, n4⟩ := hv89
        have hdg : 48 ≤ sgC mi (p0 + 1) ∧ sgC mi (p0 + 1) ≤ 57 := by rw [← hv69]; omega
        have hvr := nuV_rng (s := sgC mi) (p := p0 + 1) hdg
        rw [← n1] at hvr
        have g1 : ∀ (x : Nat) (j : Int), (x ≠ 18 ∨ (j ≠ 4 ∧ j ≠ 5 ∧ j ≠ 7 ∧ j ≠ 8)) → m1 x j = mi x j := fun x j a => by rw [n3 x j (by omega)]; rcases a with a | a; (rw [aup_a a, aup_a a]); (rw [aup_k a.2.2.1, aup_k a.2.2.2])
        have hf1 : frR mi m1 := ⟨fun x j a _ _ _ => g1 x j (Or.inl a), g1 _ _ (by omega), g1 _ _ (by omega)⟩
        have e8 : m1 18 8 = mi 18 8 - 1 := by rw [n3 _ _ (by omega), aup_k (by decide), aup_eq]
        refine aw_istore_n (i := 1) (lv' := [(0, .ref 18), (1, iI v89)]) [1, 0] dX3_closeGroup_92 rfl (by decide) rfl ?_
        rcases n4 with ⟨k1, k2, k3, k5⟩ | ⟨k1, k2, k3⟩
        · have k6 : m1 18 4 = 0 := by rw [k3, aup_k (by decide), aup_k (by decide)]; exact h4
          refine aw_aload_n (i := 0) (q := 0) dX3_closeGroup_93 rfl rfl ?_
          refine aw_getIk (x := 0) 4 flX3_25 SH_18 (by decide) rfl rfl k6 dX3_closeGroup_94 (fun r94 => ?_)
          refine aw_if_ne (tgt := 109) dX3_closeGroup_97 (by decide) (by decide) (fun c97 => ?_) (fun c97 => ?_)
          · exact absurd c97 (by decide)
          · refine aw_aload_n (i := 0) (q := 0) dX3_closeGroup_100 rfl rfl ?_
            refine aw_aload_n (i := 0) (q := 0) dX3_closeGroup_101 rfl rfl ?_
            refine aw_getIk (x := mi 18 8 - 1) 8 flX3_37 SH_18 (by decide) rfl rfl e8 dX3_closeGroup_102 (fun r102 => ?_)
            refine aw_iload_n (i := 1) (q := 1) dX3_closeGroup_105 rfl rfl ?_
            refine aw_cVv (As := [iI (mi 18 8 - 1), iI v89]) (st := []) clX3_83 (s_X3_repeatGroup (mi := m1) (o := o) (g := g) hR ⟨hg9.2.2, ho⟩ (by rw [g1 _ _ (by omega)]; exact h3) (AR_congr hq.2.2.1 (fun j => g1 _ _ (by omega))) (by omega) (by rw [g1 _ _ (by omega)]; exact hpop.2.1) (by rw [g1 _ _ (by omega)]; exact hpop.2.2) ⟨hg9.1, hg9.2.1⟩ ⟨k1, k2⟩) SH_18 rfl (by decide) rfl rfl (Nat.le_of_ble_eq_true rfl) (by decide) (by decide) (Nat.le_refl _) (Nat.le_refl _) dX3_closeGroup_106 (fun m2 hm2 => ?_)
            rcases hm2 with ⟨q1, q2⟩ | ⟨q1, q2, q3, q4⟩
            · subst q2; exact aw_vret ⟨rfl, rfl, rfl, ⟨(frR_k (by decide) (by decide) (frR_k (by decide) (by decide) hf1)), 4, g.1, _, rs_close4 hs (by omega) hdg (by rw [← n1]; omega) (by rw [← n1]; exact q1), Or.inr ⟨by decide, by rw [aup_k (by decide), aup_eq], aup_eq _ _ _ _⟩⟩⟩ (Nat.le_refl _) (Nat.le_refl _) dX3_closeGroup_109
            · exact aw_vret ⟨rfl, rfl, rfl, ⟨frR_tr hf1 ⟨fun x j a b c d => q4 x j b (Or.inl a), q4 _ _ (by decide) (Or.inr (by decide)), q4 _ _ (by decide) (Or.inr (by decide))⟩, 0, -1, _, rs_close hs (by omega) hdg (by rw [← n1]; omega) (by rw [← n1]; exact q1), Or.inl ⟨rfl, rfl, ⟨by rw [q4 _ _ (by decide) (Or.inr (by decide))]; exact n2, by rw [← n1]; exact q2, by rw [← n1]; exact q3, by rw [q4 _ _ (by decide) (Or.inr (by decide)), e8]; show _ = (k.length : Int); omega, SV_congr k (fun j _ => ⟨by rw [q4 _ _ (by decide) (Or.inl (by decide)), g1 _ _ (by omega)], by rw [q4 _ _ (by decide) (Or.inl (by decide)), g1 _ _ (by omega)]⟩) hq.2.2.2.2.2.2⟩, by rw [q4 _ _ (by decide) (Or.inr (by decide))]; exact k6, by rw [q4 _ _ (by decide) (Or.inr (by decide)), k5, aup_k (by decide), aup_k (by decide)]⟩⟩⟩ (Nat.le_refl _) (Nat.le_refl _) dX3_closeGroup_109
        · refine aw_aload_n (i := 0) (q := 0) dX3_closeGroup_93 rfl rfl ?_
          refine aw_getIk (x := 2) 4 flX3_25 SH_18 (by decide) rfl rfl k2 dX3_closeGroup_94 (fun r94 => ?_)
          refine aw_if_ne (tgt := 109) dX3_closeGroup_97 (by decide) (by decide) (fun c97 => ?_) (fun c97 => ?_)
          · exact aw_vret ⟨rfl, rfl, rfl, ⟨hf1, 2, p0 + 1, _, rs_close2 hs (by omega) hdg (by rw [← n1]; exact k1), Or.inr ⟨by decide, k2, k3⟩⟩⟩ (Nat.le_refl _) (Nat.le_refl _) dX3_closeGroup_109
          · exact absurd c97 (by decide)
      · refine aw_aload_n (i := 0) (q := 0) dX3_closeGroup_78 rfl rfl ?_
        refine aw_iconst dX3_closeGroup_79 ?_
        refine aw_aload_n (i := 0) (q := 0) dX3_closeGroup_80 rfl rfl ?_
        refine aw_getIk (x := p0 + 1) 7 flX3_34 SH_18 (by decide) rfl rfl (by (rw [aup_eq]) <;> rfl) dX3_closeGroup_81 (fun r81 => ?_)
        refine aw_cVv (As := [iI 1, iI (p0 + 1)]) (st := []) clX3_55 (s_X3_fail hR (by decide) (by omega)) SH_18 rfl (by decide) rfl rfl (Nat.le_of_ble_eq_true rfl) (by decide) (by decide) (Nat.le_refl _) (Nat.le_refl _) dX3_closeGroup_84 (fun m9 hm9 => ?_)
        subst hm9
        exact aw_vret ⟨rfl, rfl, rfl, ⟨(frR_k (k := 5) (v := p0 + 1) (by decide) (by decide) (frR_k (k := 4) (v := 1) (by decide) (by decide) (frR_k (k := 7) (v := p0 + 1) (by decide) (by decide) (frR_k (k := 8) (v := (mi 18 8) - 1) (by decide) (by decide) (frR_rfl mi))))), 1, p0 + 1, _, rs_close1 hs (by omega) (by rw [← hv69]; omega), Or.inr ⟨by decide, by rw [aup_k (by decide), aup_eq], aup_eq _ _ _ _⟩⟩⟩ (Nat.le_refl _) (Nat.le_refl _) dX3_closeGroup_87
    · refine aw_aload_n (i := 0) (q := 0) dX3_closeGroup_44 rfl rfl ?_
      refine aw_iconst dX3_closeGroup_45 ?_
      refine aw_aload_n (i := 0) (q := 0) dX3_closeGroup_46 rfl rfl ?_
      refine aw_getIk (x := p0) 7 flX3_34 SH_18 (by decide) rfl rfl (by rw [aup_k (by decide)]; exact h7) dX3_closeGroup_47 (fun r47 => ?_)
      refine aw_cVv (As := [iI 5, iI p0]) (st := []) clX3_55 (s_X3_fail hR (by decide) (by omega)) SH_18 rfl (by decide) rfl rfl (Nat.le_of_ble_eq_true rfl) (by decide) (by decide) (Nat.le_refl _) (Nat.le_refl _) dX3_closeGroup_50 (fun m9 hm9 => ?_)
      subst hm9
      exact aw_vret ⟨rfl, rfl, rfl, ⟨(frR_k (k := 5) (v := p0) (by decide) (by decide) (frR_k (k := 4) (v := 5) (by decide) (by decide) (frR_k (k := 8) (v := (mi 18 8) - 1) (by decide) (by decide) (frR_rfl mi)))), 5, p0, _, rs_close5 hs (by omega), Or.inr ⟨by decide, by rw [aup_k (by decide), aup_eq], aup_eq _ _ _ _⟩⟩⟩ (Nat.le_refl _) (Nat.le_refl _) dX3_closeGroup_53
  · exfalso; omega
theorem s_close0 {mr : aR} (hR : Rok mr) {mi : aM} {p0 : Int} {o : List Int} (hE : 0 ≤ mi 18 6 ∧ mi 18 6 ≤ 300) (hw : wfQ (mi 18 6) (p0, o, [])) (hq : RQc mi (p0, o, [])) (h4 : mi 18 4 = 0) (hs : sgC mi p0 = 41) : SPg yX3_closeGroup cX3_closeGroup 2 none 3 [.ref 18] mi mr (Pv mr (fun m => stR mi (p0, o, []) m)) := by
  refine SPg.void rfl (by decide +kernel) (Nat.le_of_ble_eq_true rfl) ?_
  show AWm RX3 cX3_closeGroup 2 3 _ 0 [(0, .ref 18)] [] mi mr
  have h7 : mi 18 7 = p0 := hq.1
  have h8 : mi 18 8 = 0 := hq.2.2.2.1
  have hpl := sgC_lt (m := mi) (p := p0) (by omega)
  refine aw_aload_n (i := 0) (q := 0) dX3_closeGroup_0 rfl rfl ?_
  refine aw_getIk (x := mi 18 8) 8 flX3_37 SH_18 (by decide) rfl rfl rfl dX3_closeGroup_1 (fun r1 => ?_)
  refine aw_iconst dX3_closeGroup_4 ?_
  refine aw_icmp_ge (tgt := 18) dX3_closeGroup_5 (by decide) (by first | assumption | omega) (by decide) (fun c5 => ?_) (fun c5 => ?_)
  · exfalso; omega
  · refine aw_aload_n (i := 0) (q := 0) dX3_closeGroup_8 rfl rfl ?_
    refine aw_iconst dX3_closeGroup_9 ?_
    refine aw_aload_n (i := 0) (q := 0) dX3_closeGroup_10 rfl rfl ?_
    refine aw_getIk (x := p0) 7 flX3_34 SH_18 (by decide) rfl rfl h7 dX3_closeGroup_11 (fun r11 => ?_)
    refine aw_cVv (As := [iI 1, iI p0]) (st := []) clX3_55 (s_X3_fail hR (by decide) (by omega)) SH_18 rfl (by decide) rfl rfl (Nat.le_of_ble_eq_true rfl) (by decide) (by decide) (Nat.le_refl _) (Nat.le_refl _) dX3_closeGroup_14 (fun m9 hm9 => ?_)
    subst hm9
    exact aw_vret ⟨rfl, rfl, rfl, ⟨(frR_k (k := 5) (v := p0) (by decide) (by decide) (frR_k (k := 4) (v := 1) (by decide) (by decide) (frR_rfl mi))), 1, p0, _, rs_close0 hs, Or.inr ⟨by decide, by rw [aup_k (by decide), aup_eq], aup_eq _ _ _ _⟩⟩⟩ (Nat.le_refl _) (Nat.le_refl _) dX3_closeGroup_17
theorem s_close {mr : aR} (hR : Rok mr) {mi : aM} {p0 : Int} {o : List Int} {k : rSt} (hE : 0 ≤ mi 18 6 ∧ mi 18 6 ≤ 300) (hw : wfQ (mi 18 6) (p0, o, k)) (hq : RQc mi (p0, o, k)) (h4 : mi 18 4 = 0) (hs : sgC mi p0 = 41) : SPg yX3_closeGroup cX3_closeGroup 2 none 3 [.ref 18] mi mr (Pv mr (fun m => stR mi (p0, o, k) m)) := by
  cases k with
  | nil => exact s_close0 hR hE hw hq h4 hs
  | cons g k => exact s_close1 hR hE hw hq h4 hs
theorem s_X3_readNext {mr : aR} (hR : Rok mr) {mi : aM} {p0 : Int} {o : List Int} {k : rSt} (hE : 0 ≤ mi 18 6 ∧ mi 18 6 ≤ 300) (hw : wfQ (mi 18 6) (p0, o, k)) (hq : RQc mi (p0, o, k)) (h4 : mi 18 4 = 0) (hp : p0 < mi 18 6) : SPg yX3_readNext cX3_readNext 2 none 4 [.ref 18] mi mr (Pv mr (fun m => stR mi (p0, o, k) m)) := by
  refine SPg.void rfl (by decide +kernel) (Nat.le_of_ble_eq_true rfl) ?_
  show AWm RX3 cX3_readNext 2 4 _ 0 [(0, .ref 18)] [] mi mr
  have h7 : mi 18 7 = p0 := hq.1
  have h3 : mi 18 3 = (o.length : Int) := hq.2.1
  have h8 : mi 18 8 = (k.length : Int) := hq.2.2.2.1
  have hk3 : k.length ≤ 3 := hw.2.2.2.1
  have ho : o.length ≤ 100 := hw.2.2.1
  have hp0 : 0 ≤ p0 := hw.1
  refine aw_aload_n (i := 0) (q := 0) dX3_readNext_0 rfl rfl ?_
  refine aw_aload_n (i := 0) (q := 0) dX3_readNext_1 rfl rfl ?_
  refine aw_getIk (x := p0) 7 flX3_34 SH_18 (by decide) rfl rfl h7 dX3_readNext_2 (fun r2 => ?_)
  refine aw_cVp (As := [iI p0]) (st := []) clX3_59 (s_X3_signAt hR hE (by omega)) SH_18 rfl (by decide) rfl rfl (Nat.le_of_ble_eq_true rfl) (by decide) (by decide) (Nat.le_refl _) (Nat.le_refl _) dX3_readNext_5 (fun v5 hv5 => ?_)
  obtain ⟨hv5, hv5a, hv5b⟩ := hv5
  refine aw_istore_n (i := 1) (lv' := [(0, .ref 18), (1, iI v5)]) [1, 0] dX3_readNext_8 rfl (by decide) rfl ?_
  refine aw_iload_n (i := 1) (q := 1) dX3_readNext_9 rfl rfl ?_
  refine aw_bipush (x := 32) dX3_readNext_10 rfl ?_
  refine aw_icmp_ne (tgt := 28) dX3_readNext_12 (by decide) (by first | assumption | omega) (by decide) (fun c12 => ?_) (fun c12 => ?_)
  · refine aw_iload_n (i := 1) (q := 1) dX3_readNext_28 rfl rfl ?_
    refine aw_bipush (x := 40) dX3_readNext_29 rfl ?_
    refine aw_icmp_ne (tgt := 41) dX3_readNext_31 (by decide) (by first | assumption | omega) (by decide) (fun c31 => ?_) (fun c31 => ?_)
    · refine aw_iload_n (i := 1) (q := 1) dX3_readNext_41 rfl rfl ?_
      refine aw_bipush (x := 41) dX3_readNext_42 rfl ?_
      refine aw_icmp_ne (tgt := 54) dX3_readNext_44 (by decide) (by first | assumption | omega) (by decide) (fun c44 => ?_) (fun c44 => ?_)
      · refine aw_iload_n (i := 1) (q := 1) dX3_readNext_54 rfl rfl ?_
        refine aw_bipush (x := 45) dX3_readNext_55 rfl ?_
        refine aw_icmp_eq (tgt := 67) dX3_readNext_57 (by decide) (by first | assumption | omega) (by decide) (fun c57 => ?_) (fun c57 => ?_)
        · refine aw_aload_n (i := 0) (q := 0) dX3_readNext_67 rfl rfl ?_
          refine aw_cVv (As := []) (st := []) clX3_73 (s_X3_readStep hR hE hw hq h4 (by omega)) SH_18 rfl (by decide) rfl rfl (Nat.le_of_ble_eq_true rfl) (by decide) (by decide) (Nat.le_refl _) (Nat.le_refl _) dX3_readNext_68 (fun m9 hm9 => ?_)
          refine aw_goto (tgt := 83) dX3_readNext_71 (by decide) ?_
          exact aw_vret ⟨rfl, rfl, rfl, hm9⟩ (Nat.le_refl _) (Nat.le_refl _) dX3_readNext_83
        · refine aw_iload_n (i := 1) (q := 1) dX3_readNext_60 rfl rfl ?_
          refine aw_cSp (As := [iI v5]) (st := []) clX3_69 (s_X3_isLetter hR (by omega)) rfl rfl (Nat.le_of_ble_eq_true rfl) (by decide) (by decide) (Nat.le_refl _) (Nat.le_refl _) dX3_readNext_61 (fun v61 hv61 => ?_)
          refine aw_if_eq (tgt := 74) dX3_readNext_64 (by decide) (by first | assumption | omega) (fun c64 => ?_) (fun c64 => ?_)
          · refine aw_aload_n (i := 0) (q := 0) dX3_readNext_74 rfl rfl ?_
            refine aw_iconst dX3_readNext_75 ?_
            refine aw_aload_n (i := 0) (q := 0) dX3_readNext_76 rfl rfl ?_
            refine aw_getIk (x := p0) 7 flX3_34 SH_18 (by decide) rfl rfl h7 dX3_readNext_77 (fun r77 => ?_)
            refine aw_cVv (As := [iI 1, iI p0]) (st := []) clX3_55 (s_X3_fail hR (by decide) (by omega)) SH_18 rfl (by decide) rfl rfl (Nat.le_of_ble_eq_true rfl) (by decide) (by decide) (Nat.le_refl _) (Nat.le_refl _) dX3_readNext_80 (fun m9 hm9 => ?_)
            subst hm9
            exact aw_vret ⟨rfl, rfl, rfl, ⟨(frR_k (k := 5) (v := p0) (by decide) (by decide) (frR_k (k := 4) (v := 1) (by decide) (by decide) (frR_rfl mi))), 1, p0, _, rs_bad (by omega) (by omega) (by omega) (by omega), Or.inr ⟨by decide, by rw [aup_k (by decide), aup_eq], aup_eq _ _ _ _⟩⟩⟩ (Nat.le_refl _) (Nat.le_refl _) dX3_readNext_83
          · refine aw_aload_n (i := 0) (q := 0) dX3_readNext_67 rfl rfl ?_
            refine aw_cVv (As := []) (st := []) clX3_73 (s_X3_readStep hR hE hw hq h4 (by omega)) SH_18 rfl (by decide) rfl rfl (Nat.le_of_ble_eq_true rfl) (by decide) (by decide) (Nat.le_refl _) (Nat.le_refl _) dX3_readNext_68 (fun m9 hm9 => ?_)
            refine aw_goto (tgt := 83) dX3_readNext_71 (by decide) ?_
            exact aw_vret ⟨rfl, rfl, rfl, hm9⟩ (Nat.le_refl _) (Nat.le_refl _) dX3_readNext_83
      · refine aw_aload_n (i := 0) (q := 0) dX3_readNext_47 rfl rfl ?_
        refine aw_cVv (As := []) (st := []) clX3_66 (s_close hR hE hw hq h4 (by omega)) SH_18 rfl (by decide) rfl rfl (Nat.le_of_ble_eq_true rfl) (by decide) (by decide) (Nat.le_refl _) (Nat.le_refl _) dX3_readNext_48 (fun m9 hm9 => ?_)
        refine aw_goto (tgt := 83) dX3_readNext_51 (by decide) ?_
        exact aw_vret ⟨rfl, rfl, rfl, hm9⟩ (Nat.le_refl _) (Nat.le_refl _) dX3_readNext_83
    · refine aw_aload_n (i := 0) (q := 0) dX3_readNext_34 rfl rfl ?_
      refine aw_cVv (As := []) (st := []) clX3_63 (s_X3_openGroup hR hE hw hq h4 (by omega)) SH_18 rfl (by decide) rfl rfl (Nat.le_of_ble_eq_true rfl) (by decide) (by decide) (Nat.le_refl _) (Nat.le_refl _) dX3_readNext_35 (fun m9 hm9 => ?_)
      refine aw_goto (tgt := 83) dX3_readNext_38 (by decide) ?_
      exact aw_vret ⟨rfl, rfl, rfl, hm9⟩ (Nat.le_refl _) (Nat.le_refl _) dX3_readNext_83
  · refine aw_aload_n (i := 0) (q := 0) dX3_readNext_15 rfl rfl ?_
    refine aw_dup dX3_readNext_16 rfl ?_
    refine aw_getIk (x := p0) 7 flX3_34 SH_18 (by decide) rfl rfl h7 dX3_readNext_17 (fun r17 => ?_)
    refine aw_iconst dX3_readNext_20 ?_
    refine aw_iadd dX3_readNext_21 ?_
    refine aw_putIk 7 flX3_34 SH_18 (by decide) rfl rfl rfl (by first | assumption | omega) dX3_readNext_22 ?_
    refine aw_goto (tgt := 83) dX3_readNext_25 (by decide) ?_
    exact aw_vret ⟨rfl, rfl, rfl, ⟨(frR_k (k := 7) (v := p0 + 1) (by decide) (by decide) (frR_rfl mi)), 0, -1, _, rs_sp (by omega), Or.inl ⟨rfl, rfl, RQ_at hq, by rw [aup_k (by decide)]; exact h4, by rw [aup_k (by decide)]⟩⟩⟩ (Nat.le_refl _) (Nat.le_refl _) dX3_readNext_83
