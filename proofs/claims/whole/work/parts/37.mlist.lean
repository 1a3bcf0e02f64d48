-- part 37: the model: schedules, removes, strokeOf, nextOf, ranked, movingHammers (printed by wip/whole/gen/p37.py)
/-- a stroke more, at the end -/
def mAdd (mi : aM) (b t : Int) : aM := aup (aup (aup (aup mi 67 (mi 58 18) b) 68 (mi 58 18) t) 69 (mi 58 18) (t - mi 59 b)) 58 18 (mi 58 18 + 1)
/-- the stroke i away, the last one into its place -/
def mRem (mi : aM) (i : Int) : aM := aup (aup (aup (aup mi 58 18 (mi 58 18 - 1)) 67 i (mi 67 (mi 58 18 - 1))) 68 i (mi 68 (mi 58 18 - 1))) 69 i (mi 69 (mi 58 18 - 1))
theorem mAdd_o {mi : aM} {b t : Int} {x : Nat} {j : Int} (h : (x < 67 ∨ 69 < x) ∧ (x ≠ 58 ∨ j ≠ 18)) : mAdd mi b t x j = mi x j := by
  unfold mAdd
  have e : aup (aup (aup mi 67 (mi 58 18) b) 68 (mi 58 18) t) 69 (mi 58 18) (t - mi 59 b) x j = mi x j := by rw [aup_a (by omega), aup_a (by omega), aup_a (by omega)]
  rcases h.2 with q | q
  · rw [aup_a q]; exact e
  · rw [aup_k q]; exact e
theorem mRem_o {mi : aM} {i : Int} {x : Nat} {j : Int} (h : (x < 67 ∨ 69 < x) ∧ (x ≠ 58 ∨ j ≠ 18)) : mRem mi i x j = mi x j := by
  unfold mRem
  rw [aup_a (by omega), aup_a (by omega), aup_a (by omega)]
  rcases h.2 with q | q
  · rw [aup_a q]
  · rw [aup_k q]
theorem mAdd_n (mi : aM) (b t : Int) : mAdd mi b t 58 18 = mi 58 18 + 1 := by unfold mAdd; rw [aup_eq]
theorem mRem_n (mi : aM) (i : Int) : mRem mi i 58 18 = mi 58 18 - 1 := by unfold mRem; rw [aup_a (by decide), aup_a (by decide), aup_a (by decide), aup_eq]
theorem mS_Add {mi : aM} {b t i : Int} : mS (mAdd mi b t) i = if i = mi 58 18 then (b, t - mi 59 b, t) else mS mi i := by
  unfold mS mAdd
  by_cases q : i = mi 58 18
  · rw [if_pos q, q]; simp [aup]
  · rw [if_neg q]; simp [aup, q]
theorem mS_Rem {mi : aM} {i j : Int} : mS (mRem mi i) j = if j = i then mS mi (mi 58 18 - 1) else mS mi j := by
  unfold mS mRem
  by_cases q : j = i
  · rw [if_pos q, q]; simp [aup]
  · rw [if_neg q]; simp [aup, q]
theorem mL_Add {mi : aM} (h : mOk mi) (b t : Int) : (mL (mAdd mi b t)).Perm ((b, t - mi 59 b, t) :: mL mi) := by
  have h1 := h.1
  unfold mL
  rw [mAdd_n, show (mi 58 18 + 1).toNat = (mi 58 18).toNat + 1 by omega, lst_succ, mS_Add, if_pos (by omega), lst_congr (g := mS mi) (fun i a c => by rw [mS_Add, if_neg (by omega)])]
  exact List.perm_append_singleton _ _
theorem mL_Rem {mi : aM} (h : mOk mi) {i : Int} (hi : 0 ≤ i ∧ i < mi 58 18) : (mL mi).Perm (mS mi i :: mL (mRem mi i)) := by
  have h1 := h.1
  have e := lst_swap (f := mS mi) (g := mS (mRem mi i)) (n := (mi 58 18 - 1).toNat) (k := i.toNat) (by omega) (fun j a c d => by rw [mS_Rem, if_neg (by omega)]) (fun q => by rw [mS_Rem, if_pos (by omega)]; congr 1; omega)
  unfold mL
  rw [mRem_n]
  rw [show (mi 58 18 - 1).toNat + 1 = (mi 58 18).toNat by omega, show ((i.toNat : Nat) : Int) = i by omega] at e
  exact e
theorem mOk_Add {mi : aM} (h : mOk mi) {b t : Int} (hn : mi 58 18 < 300) (hb : 0 ≤ b ∧ b < 12) (hd : 1 ≤ mi 59 b ∧ mi 59 b ≤ 50) (ht : 0 ≤ t ∧ t ≤ 150000) : mOk (mAdd mi b t) := by
  refine ⟨by rw [mAdd_n]; have := h.1; omega, fun i i0 i1 => ?_⟩
  rw [mAdd_n] at i1
  have e := mS_Add (mi := mi) (b := b) (t := t) (i := i)
  unfold mS at e
  by_cases q : i = mi 58 18
  · rw [if_pos q, Prod.mk.injEq, Prod.mk.injEq] at e
    rw [e.1, e.2.1, e.2.2]; omega
  · rw [if_neg q, Prod.mk.injEq, Prod.mk.injEq] at e
    rw [e.1, e.2.1, e.2.2]; exact h.2 i i0 (by omega)
theorem mOk_Rem {mi : aM} (h : mOk mi) {i : Int} (hi : 0 ≤ i ∧ i < mi 58 18) : mOk (mRem mi i) := by
  refine ⟨by rw [mRem_n]; have := h.1; omega, fun j j0 j1 => ?_⟩
  rw [mRem_n] at j1
  have e := mS_Rem (mi := mi) (i := i) (j := j)
  unfold mS at e
  by_cases q : j = i
  · rw [if_pos q, Prod.mk.injEq, Prod.mk.injEq] at e
    rw [e.1, e.2.1, e.2.2]; exact h.2 _ (by omega) (by omega)
  · rw [if_neg q, Prod.mk.injEq, Prod.mk.injEq] at e
    rw [e.1, e.2.1, e.2.2]; exact h.2 j j0 (by omega)
theorem s_X7_schedules {mr : aR} (hR : Rok mr) {mi : aM} {b t : Int} (ho : mOk mi) (hn : mi 58 18 < 300) (hb : 0 ≤ b ∧ b < 12) (hd : 1 ≤ mi 59 b ∧ mi 59 b ≤ 50) (ht : 0 ≤ t ∧ t ≤ 150000) : SPg yX7_schedules cX7_schedules 3 none 1 [.ref 58, iI b, iI t] mi mr (Pv mr (fun m => m = mAdd mi b t)) := by
  refine SPg.void rfl (by decide +kernel) (Nat.le_of_ble_eq_true rfl) ?_
  show AWm RX7 cX7_schedules 3 1 _ 0 [(0, .ref 58), (1, iI b), (2, iI t)] [] mi mr
  have hc1 := ho.1
  refine aw_aload_n (i := 0) (q := 0) dX7_schedules_0 rfl rfl ?_
  refine aw_getR (r := 67) flX7_39 SH_58 (by decide) rfl (rk_58_14 hR) dX7_schedules_1 ?_
  refine aw_aload_n (i := 0) (q := 0) dX7_schedules_4 rfl rfl ?_
  refine aw_getIk (x := mi 58 18) 18 flX7_171 SH_58 (by decide) rfl rfl rfl dX7_schedules_5 (fun r5 => ?_)
  refine aw_iload_n (i := 1) (q := 1) dX7_schedules_8 rfl rfl ?_
  refine aw_iast SH_67 (by decide) ⟨by omega, by omega⟩ (by first | assumption | omega) dX7_schedules_9 ?_
  refine aw_aload_n (i := 0) (q := 0) dX7_schedules_10 rfl rfl ?_
  refine aw_getR (r := 68) flX7_42 SH_58 (by decide) rfl (rk_58_15 hR) dX7_schedules_11 ?_
  refine aw_aload_n (i := 0) (q := 0) dX7_schedules_14 rfl rfl ?_
  refine aw_getIk (x := mi 58 18) 18 flX7_171 SH_58 (by decide) rfl rfl (by (rw [aup_a (by decide)]) <;> rfl) dX7_schedules_15 (fun r15 => ?_)
  refine aw_iload_n (i := 2) (q := 2) dX7_schedules_18 rfl rfl ?_
  refine aw_iast SH_68 (by decide) ⟨by omega, by omega⟩ (by first | assumption | omega) dX7_schedules_19 ?_
  refine aw_aload_n (i := 0) (q := 0) dX7_schedules_20 rfl rfl ?_
  refine aw_getR (r := 69) flX7_45 SH_58 (by decide) rfl (rk_58_16 hR) dX7_schedules_21 ?_
  refine aw_aload_n (i := 0) (q := 0) dX7_schedules_24 rfl rfl ?_
  refine aw_getIk (x := mi 58 18) 18 flX7_171 SH_58 (by decide) rfl rfl (by (rw [aup_a (by decide), aup_a (by decide)]) <;> rfl) dX7_schedules_25 (fun r25 => ?_)
  refine aw_iload_n (i := 2) (q := 2) dX7_schedules_28 rfl rfl ?_
  refine aw_aload_n (i := 0) (q := 0) dX7_schedules_29 rfl rfl ?_
  refine aw_getR (r := 59) flX7_13 SH_58 (by decide) rfl (rk_58_1 hR) dX7_schedules_30 ?_
  refine aw_iload_n (i := 1) (q := 1) dX7_schedules_33 rfl rfl ?_
  refine aw_ialdv (x := mi 59 b) SH_59 (by decide) ⟨by omega, by omega⟩ (by (rw [aup_a (by decide), aup_a (by decide)]) <;> rfl) dX7_schedules_34 (fun r34 => ?_)
  refine aw_isub dX7_schedules_35 ?_
  refine aw_iast SH_69 (by decide) ⟨by omega, by omega⟩ (by first | assumption | omega) dX7_schedules_36 ?_
  refine aw_aload_n (i := 0) (q := 0) dX7_schedules_37 rfl rfl ?_
  refine aw_dup dX7_schedules_38 rfl ?_
  refine aw_getIk (x := mi 58 18) 18 flX7_171 SH_58 (by decide) rfl rfl (by (rw [aup_a (by decide), aup_a (by decide), aup_a (by decide)]) <;> rfl) dX7_schedules_39 (fun r39 => ?_)
  refine aw_iconst dX7_schedules_42 ?_
  refine aw_iadd dX7_schedules_43 ?_
  refine aw_putIk 18 flX7_171 SH_58 (by decide) rfl rfl rfl (by first | assumption | omega) dX7_schedules_44 ?_
  exact aw_vret ⟨rfl, rfl, rfl, rfl⟩ (Nat.le_refl _) (Nat.le_refl _) dX7_schedules_47
theorem s_X7_removes {mr : aR} (hR : Rok mr) {mi : aM} {i : Int} (ho : mOk mi) (hi : 0 ≤ i ∧ i < mi 58 18) : SPg yX7_removes cX7_removes 2 none 1 [.ref 58, iI i] mi mr (Pv mr (fun m => m = mRem mi i)) := by
  refine SPg.void rfl (by decide +kernel) (Nat.le_of_ble_eq_true rfl) ?_
  show AWm RX7 cX7_removes 2 1 _ 0 [(0, .ref 58), (1, iI i)] [] mi mr
  have hc1 := ho.1
  have hl9 := ho.2 (mi 58 18 - 1) (by omega) (by omega)
  refine aw_aload_n (i := 0) (q := 0) dX7_removes_0 rfl rfl ?_
  refine aw_dup dX7_removes_1 rfl ?_
  refine aw_getIk (x := mi 58 18) 18 flX7_171 SH_58 (by decide) rfl rfl rfl dX7_removes_2 (fun r2 => ?_)
  refine aw_iconst dX7_removes_5 ?_
  refine aw_isub dX7_removes_6 ?_
  refine aw_putIk 18 flX7_171 SH_58 (by decide) rfl rfl rfl (by first | assumption | omega) dX7_removes_7 ?_
  refine aw_aload_n (i := 0) (q := 0) dX7_removes_10 rfl rfl ?_
  refine aw_getR (r := 67) flX7_39 SH_58 (by decide) rfl (rk_58_14 hR) dX7_removes_11 ?_
  refine aw_iload_n (i := 1) (q := 1) dX7_removes_14 rfl rfl ?_
  refine aw_aload_n (i := 0) (q := 0) dX7_removes_15 rfl rfl ?_
  refine aw_getR (r := 67) flX7_39 SH_58 (by decide) rfl (rk_58_14 hR) dX7_removes_16 ?_
  refine aw_aload_n (i := 0) (q := 0) dX7_removes_19 rfl rfl ?_
  refine aw_getIk (x := (mi 58 18) - 1) 18 flX7_171 SH_58 (by decide) rfl rfl (by (rw [aup_eq]) <;> rfl) dX7_removes_20 (fun r20 => ?_)
  refine aw_ialdv (x := mi 67 ((mi 58 18) - 1)) SH_67 (by decide) ⟨by omega, by omega⟩ (by (rw [aup_a (by decide)]) <;> rfl) dX7_removes_23 (fun r23 => ?_)
  refine aw_iast SH_67 (by decide) ⟨by omega, by omega⟩ (by first | assumption | omega) dX7_removes_24 ?_
  refine aw_aload_n (i := 0) (q := 0) dX7_removes_25 rfl rfl ?_
  refine aw_getR (r := 68) flX7_42 SH_58 (by decide) rfl (rk_58_15 hR) dX7_removes_26 ?_
  refine aw_iload_n (i := 1) (q := 1) dX7_removes_29 rfl rfl ?_
  refine aw_aload_n (i := 0) (q := 0) dX7_removes_30 rfl rfl ?_
  refine aw_getR (r := 68) flX7_42 SH_58 (by decide) rfl (rk_58_15 hR) dX7_removes_31 ?_
  refine aw_aload_n (i := 0) (q := 0) dX7_removes_34 rfl rfl ?_
  refine aw_getIk (x := (mi 58 18) - 1) 18 flX7_171 SH_58 (by decide) rfl rfl (by (rw [aup_a (by decide), aup_eq]) <;> rfl) dX7_removes_35 (fun r35 => ?_)
  refine aw_ialdv (x := mi 68 ((mi 58 18) - 1)) SH_68 (by decide) ⟨by omega, by omega⟩ (by (rw [aup_a (by decide), aup_a (by decide)]) <;> rfl) dX7_removes_38 (fun r38 => ?_)
  refine aw_iast SH_68 (by decide) ⟨by omega, by omega⟩ (by first | assumption | omega) dX7_removes_39 ?_
  refine aw_aload_n (i := 0) (q := 0) dX7_removes_40 rfl rfl ?_
  refine aw_getR (r := 69) flX7_45 SH_58 (by decide) rfl (rk_58_16 hR) dX7_removes_41 ?_
  refine aw_iload_n (i := 1) (q := 1) dX7_removes_44 rfl rfl ?_
  refine aw_aload_n (i := 0) (q := 0) dX7_removes_45 rfl rfl ?_
  refine aw_getR (r := 69) flX7_45 SH_58 (by decide) rfl (rk_58_16 hR) dX7_removes_46 ?_
  refine aw_aload_n (i := 0) (q := 0) dX7_removes_49 rfl rfl ?_
  refine aw_getIk (x := (mi 58 18) - 1) 18 flX7_171 SH_58 (by decide) rfl rfl (by (rw [aup_a (by decide), aup_a (by decide), aup_eq]) <;> rfl) dX7_removes_50 (fun r50 => ?_)
  refine aw_ialdv (x := mi 69 ((mi 58 18) - 1)) SH_69 (by decide) ⟨by omega, by omega⟩ (by (rw [aup_a (by decide), aup_a (by decide), aup_a (by decide)]) <;> rfl) dX7_removes_53 (fun r53 => ?_)
  refine aw_iast SH_69 (by decide) ⟨by omega, by omega⟩ (by first | assumption | omega) dX7_removes_54 ?_
  exact aw_vret ⟨rfl, rfl, rfl, rfl⟩ (Nat.le_refl _) (Nat.le_refl _) dX7_removes_55
theorem l_strokeOf {mr : aR} (hR : Rok mr) {mi : aM} (ho : mOk mi) {b t : Int} (h_b : -2147483648 ≤ b ∧ b ≤ 2147483647) (h_t : -2147483648 ≤ t ∧ t ≤ 2147483647) : ∀ (n : Nat) (z : Int), (∀ i : Int, 0 ≤ i → i < z → ¬ (mi 67 i = b ∧ mi 68 i = t)) → (0 ≤ z ∧ z ≤ mi 58 18) → mi 58 18 - z < n → AWm RX7 cX7_strokeOf 4 1 (Pp mi mr (fun r => (0 ≤ r ∧ r < mi 58 18 ∧ mi 67 r = b ∧ mi 68 r = t) ∨ (r = -1 ∧ ∀ i : Int, 0 ≤ i → i < mi 58 18 → ¬ (mi 67 i = b ∧ mi 68 i = t)))) 2 [(0, .ref 58), (1, iI b), (2, iI t), (3, iI z)] [] mi mr := by
  intro n
  induction n with
  | zero => intro z h1 h2 h3; omega
  | succ n ih =>
    intro z h1 h2 h3
    have hc1 := ho.1
    refine aw_iload_n (i := 3) (q := 3) dX7_strokeOf_2 rfl rfl ?_
    refine aw_aload_n (i := 0) (q := 0) dX7_strokeOf_3 rfl rfl ?_
    refine aw_getIk (x := mi 58 18) 18 flX7_171 SH_58 (by decide) rfl rfl rfl dX7_strokeOf_4 (fun r4 => ?_)
    refine aw_icmp_ge (tgt := 38) dX7_strokeOf_7 (by decide) (by first | assumption | omega) (by first | assumption | omega) (fun c7 => ?_) (fun c7 => ?_)
    · refine aw_iconst dX7_strokeOf_38 ?_
      exact aw_iret ⟨_, rfl, rfl, rfl, rfl, (Or.inr ⟨rfl, fun i x1 x2 => h1 i x1 (by omega)⟩)⟩ (Nat.le_refl _) (Nat.le_refl _) dX7_strokeOf_39
    · refine aw_aload_n (i := 0) (q := 0) dX7_strokeOf_10 rfl rfl ?_
      refine aw_getR (r := 67) flX7_39 SH_58 (by decide) rfl (rk_58_14 hR) dX7_strokeOf_11 ?_
      refine aw_iload_n (i := 3) (q := 3) dX7_strokeOf_14 rfl rfl ?_
      refine aw_ialdv (x := mi 67 z) SH_67 (by decide) ⟨by omega, by omega⟩ rfl dX7_strokeOf_15 (fun r15 => ?_)
      refine aw_iload_n (i := 1) (q := 1) dX7_strokeOf_16 rfl rfl ?_
      refine aw_icmp_ne (tgt := 32) dX7_strokeOf_17 (by decide) (by first | assumption | omega) (by first | assumption | omega) (fun c17 => ?_) (fun c17 => ?_)
      · refine aw_iinc (i := 3) (q := 3) (x := z) (lv' := [(0, .ref 58), (1, iI b), (2, iI t), (3, iI (z + 1))]) [1, 2, 3, 0] dX7_strokeOf_32 rfl (by decide) rfl ?_
        refine aw_goto (tgt := 2) dX7_strokeOf_35 (by decide) ?_
        exact ih _ (fun i x1 x2 => by by_cases hi : i = z; (subst hi; omega); (exact h1 i x1 (by omega))) (by omega) (by omega)
      · refine aw_aload_n (i := 0) (q := 0) dX7_strokeOf_20 rfl rfl ?_
        refine aw_getR (r := 68) flX7_42 SH_58 (by decide) rfl (rk_58_15 hR) dX7_strokeOf_21 ?_
        refine aw_iload_n (i := 3) (q := 3) dX7_strokeOf_24 rfl rfl ?_
        refine aw_ialdv (x := mi 68 z) SH_68 (by decide) ⟨by omega, by omega⟩ rfl dX7_strokeOf_25 (fun r25 => ?_)
        refine aw_iload_n (i := 2) (q := 2) dX7_strokeOf_26 rfl rfl ?_
        refine aw_icmp_ne (tgt := 32) dX7_strokeOf_27 (by decide) (by first | assumption | omega) (by first | assumption | omega) (fun c27 => ?_) (fun c27 => ?_)
        · refine aw_iinc (i := 3) (q := 3) (x := z) (lv' := [(0, .ref 58), (1, iI b), (2, iI t), (3, iI (z + 1))]) [1, 2, 3, 0] dX7_strokeOf_32 rfl (by decide) rfl ?_
          refine aw_goto (tgt := 2) dX7_strokeOf_35 (by decide) ?_
          exact ih _ (fun i x1 x2 => by by_cases hi : i = z; (subst hi; omega); (exact h1 i x1 (by omega))) (by omega) (by omega)
        · refine aw_iload_n (i := 3) (q := 3) dX7_strokeOf_30 rfl rfl ?_
          exact aw_iret ⟨_, rfl, rfl, rfl, rfl, (Or.inl ⟨by omega, by omega, by omega, by omega⟩)⟩ (Nat.le_refl _) (Nat.le_refl _) dX7_strokeOf_31
theorem s_X7_strokeOf {mr : aR} (hR : Rok mr) {mi : aM} {b t : Int} (ho : mOk mi) (h_b : -2147483648 ≤ b ∧ b ≤ 2147483647) (h_t : -2147483648 ≤ t ∧ t ≤ 2147483647) : SPg yX7_strokeOf cX7_strokeOf 4 (some .int) 1 [.ref 58, iI b, iI t] mi mr (Pp mi mr (fun r => (0 ≤ r ∧ r < mi 58 18 ∧ mi 67 r = b ∧ mi 68 r = t) ∨ (r = -1 ∧ ∀ i : Int, 0 ≤ i → i < mi 58 18 → ¬ (mi 67 i = b ∧ mi 68 i = t)))) := by
  refine SPg.pure rfl (by decide +kernel) (Nat.le_of_ble_eq_true rfl) ?_
  show AWm RX7 cX7_strokeOf 4 1 _ 0 [(0, .ref 58), (1, iI b), (2, iI t)] [] mi mr
  refine aw_iconst dX7_strokeOf_0 ?_
  refine aw_istore_n (i := 3) (lv' := [(0, .ref 58), (1, iI b), (2, iI t), (3, iI 0)]) [1, 2, 3, 0] dX7_strokeOf_1 rfl (by decide) rfl ?_
  exact l_strokeOf hR ho h_b h_t ((mi 58 18).toNat + 1) 0 (fun i x1 x2 => by omega) ⟨by omega, ho.1.1⟩ (by have := ho.1; omega)
theorem l_nextOf {mr : aR} (hR : Rok mr) {mi : aM} (ho : mOk mi) (ht0 : ∀ i : Int, 0 ≤ i → i < mi 58 18 → 0 ≤ mi 68 i) {b : Int} (h_b : -2147483648 ≤ b ∧ b ≤ 2147483647) : ∀ (n : Nat) (g z : Int), (∃ k : Int, 0 ≤ k ∧ k < z ∧ mi 67 k = b ∧ g = mi 68 k ∧ ∀ i : Int, 0 ≤ i → i < z → mi 67 i = b → g ≤ mi 68 i) ∨ (g = -1 ∧ ∀ i : Int, 0 ≤ i → i < z → mi 67 i ≠ b) → (0 ≤ z ∧ z ≤ mi 58 18) → (-1 ≤ g ∧ g ≤ 300000) → mi 58 18 - z < n → AWm RX7 cX7_nextOf 4 1 (Pp mi mr (fun r => (∃ k : Int, 0 ≤ k ∧ k < mi 58 18 ∧ mi 67 k = b ∧ r = mi 68 k ∧ ∀ i : Int, 0 ≤ i → i < mi 58 18 → mi 67 i = b → r ≤ mi 68 i) ∨ (r = -1 ∧ ∀ i : Int, 0 ≤ i → i < mi 58 18 → mi 67 i ≠ b))) 4 [(0, .ref 58), (1, iI b), (2, iI g), (3, iI z)] [] mi mr := by
  intro n
  induction n with
  | zero => intro g z h1 h2 h4 h3; omega
  | succ n ih =>
    intro g z h1 h2 h4 h3
    have hc1 := ho.1
    refine aw_iload_n (i := 3) (q := 3) dX7_nextOf_4 rfl rfl ?_
    refine aw_aload_n (i := 0) (q := 0) dX7_nextOf_5 rfl rfl ?_
    refine aw_getIk (x := mi 58 18) 18 flX7_171 SH_58 (by decide) rfl rfl rfl dX7_nextOf_6 (fun r6 => ?_)
    refine aw_icmp_ge (tgt := 50) dX7_nextOf_9 (by decide) (by first | assumption | omega) (by first | assumption | omega) (fun c9 => ?_) (fun c9 => ?_)
    · refine aw_iload_n (i := 2) (q := 2) dX7_nextOf_50 rfl rfl ?_
      exact aw_iret ⟨_, rfl, rfl, rfl, rfl, (show z = mi 58 18 by omega) ▸ h1⟩ (Nat.le_refl _) (Nat.le_refl _) dX7_nextOf_51
    · have hz9 := ho.2 z (by omega) (by omega)
      have hz8 := ht0 z (by omega) (by omega)
      refine aw_aload_n (i := 0) (q := 0) dX7_nextOf_12 rfl rfl ?_
      refine aw_getR (r := 67) flX7_39 SH_58 (by decide) rfl (rk_58_14 hR) dX7_nextOf_13 ?_
      refine aw_iload_n (i := 3) (q := 3) dX7_nextOf_16 rfl rfl ?_
      refine aw_ialdv (x := mi 67 z) SH_67 (by decide) ⟨by omega, by omega⟩ rfl dX7_nextOf_17 (fun r17 => ?_)
      refine aw_iload_n (i := 1) (q := 1) dX7_nextOf_18 rfl rfl ?_
      refine aw_icmp_ne (tgt := 44) dX7_nextOf_19 (by decide) (by first | assumption | omega) (by first | assumption | omega) (fun c19 => ?_) (fun c19 => ?_)
      · refine aw_iinc (i := 3) (q := 3) (x := z) (lv' := [(0, .ref 58), (1, iI b), (2, iI g), (3, iI (z + 1))]) [1, 2, 3, 0] dX7_nextOf_44 rfl (by decide) rfl ?_
        refine aw_goto (tgt := 4) dX7_nextOf_47 (by decide) ?_
        exact ih _ _ (by rcases h1 with ⟨k, k0, k1, k2, k3, k4⟩ | ⟨q1, q2⟩; (exact Or.inl ⟨k, k0, by omega, k2, k3, fun i x1 x2 x3 => by by_cases hi : i = z; (subst hi; omega); (exact k4 i x1 (by omega) x3)⟩); (exact Or.inr ⟨q1, fun i x1 x2 x3 => by by_cases hi : i = z; (subst hi; omega); (exact q2 i x1 (by omega) x3)⟩)) (by omega) (by omega) (by omega)
      · refine aw_iload_n (i := 2) (q := 2) dX7_nextOf_22 rfl rfl ?_
        refine aw_iconst dX7_nextOf_23 ?_
        refine aw_icmp_eq (tgt := 37) dX7_nextOf_24 (by decide) (by first | assumption | omega) (by decide) (fun c24 => ?_) (fun c24 => ?_)
        · refine aw_aload_n (i := 0) (q := 0) dX7_nextOf_37 rfl rfl ?_
          refine aw_getR (r := 68) flX7_42 SH_58 (by decide) rfl (rk_58_15 hR) dX7_nextOf_38 ?_
          refine aw_iload_n (i := 3) (q := 3) dX7_nextOf_41 rfl rfl ?_
          refine aw_ialdv (x := mi 68 z) SH_68 (by decide) ⟨by omega, by omega⟩ rfl dX7_nextOf_42 (fun r42 => ?_)
          refine aw_istore_n (i := 2) (lv' := [(0, .ref 58), (1, iI b), (2, iI (mi 68 z)), (3, iI z)]) [1, 2, 0, 3] dX7_nextOf_43 rfl (by decide) rfl ?_
          refine aw_iinc (i := 3) (q := 3) (x := z) (lv' := [(0, .ref 58), (1, iI b), (2, iI (mi 68 z)), (3, iI (z + 1))]) [1, 2, 3, 0] dX7_nextOf_44 rfl (by decide) rfl ?_
          refine aw_goto (tgt := 4) dX7_nextOf_47 (by decide) ?_
          exact ih _ _ (Or.inl ⟨z, by omega, by omega, by omega, rfl, fun i x1 x2 x3 => by by_cases hi : i = z; (subst hi; exact Int.le_refl _); (rcases h1 with ⟨k, k0, k1, k2, k3, k4⟩ | ⟨q1, q2⟩; (have := k4 i x1 (by omega) x3; have := ht0 k k0 (by omega); omega); (exact absurd x3 (q2 i x1 (by omega))))⟩) (by omega) (by omega) (by omega)
        · refine aw_aload_n (i := 0) (q := 0) dX7_nextOf_27 rfl rfl ?_
          refine aw_getR (r := 68) flX7_42 SH_58 (by decide) rfl (rk_58_15 hR) dX7_nextOf_28 ?_
          refine aw_iload_n (i := 3) (q := 3) dX7_nextOf_31 rfl rfl ?_
          refine aw_ialdv (x := mi 68 z) SH_68 (by decide) ⟨by omega, by omega⟩ rfl dX7_nextOf_32 (fun r32 => ?_)
          refine aw_iload_n (i := 2) (q := 2) dX7_nextOf_33 rfl rfl ?_
          refine aw_icmp_ge (tgt := 44) dX7_nextOf_34 (by decide) (by first | assumption | omega) (by first | assumption | omega) (fun c34 => ?_) (fun c34 => ?_)
          · refine aw_iinc (i := 3) (q := 3) (x := z) (lv' := [(0, .ref 58), (1, iI b), (2, iI g), (3, iI (z + 1))]) [1, 2, 3, 0] dX7_nextOf_44 rfl (by decide) rfl ?_
            refine aw_goto (tgt := 4) dX7_nextOf_47 (by decide) ?_
            exact ih _ _ (by rcases h1 with ⟨k, k0, k1, k2, k3, k4⟩ | ⟨q1, q2⟩; (exact Or.inl ⟨k, k0, by omega, k2, k3, fun i x1 x2 x3 => by by_cases hi : i = z; (subst hi; omega); (exact k4 i x1 (by omega) x3)⟩); (exact Or.inr ⟨q1, fun i x1 x2 x3 => by by_cases hi : i = z; (subst hi; omega); (exact q2 i x1 (by omega) x3)⟩)) (by omega) (by omega) (by omega)
          · refine aw_aload_n (i := 0) (q := 0) dX7_nextOf_37 rfl rfl ?_
            refine aw_getR (r := 68) flX7_42 SH_58 (by decide) rfl (rk_58_15 hR) dX7_nextOf_38 ?_
            refine aw_iload_n (i := 3) (q := 3) dX7_nextOf_41 rfl rfl ?_
            refine aw_ialdv (x := mi 68 z) SH_68 (by decide) ⟨by omega, by omega⟩ rfl dX7_nextOf_42 (fun r42 => ?_)
            refine aw_istore_n (i := 2) (lv' := [(0, .ref 58), (1, iI b), (2, iI (mi 68 z)), (3, iI z)]) [1, 2, 0, 3] dX7_nextOf_43 rfl (by decide) rfl ?_
            refine aw_iinc (i := 3) (q := 3) (x := z) (lv' := [(0, .ref 58), (1, iI b), (2, iI (mi 68 z)), (3, iI (z + 1))]) [1, 2, 3, 0] dX7_nextOf_44 rfl (by decide) rfl ?_
            refine aw_goto (tgt := 4) dX7_nextOf_47 (by decide) ?_
            exact ih _ _ (Or.inl ⟨z, by omega, by omega, by omega, rfl, fun i x1 x2 x3 => by by_cases hi : i = z; (subst hi; exact Int.le_refl _); (rcases h1 with ⟨k, k0, k1, k2, k3, k4⟩ | ⟨q1, q2⟩; (have := k4 i x1 (by omega) x3; have := ht0 k k0 (by omega); omega); (exact absurd x3 (q2 i x1 (by omega))))⟩) (by omega) (by omega) (by omega)
theorem s_X7_nextOf {mr : aR} (hR : Rok mr) {mi : aM} {b : Int} (ho : mOk mi) (ht0 : ∀ i : Int, 0 ≤ i → i < mi 58 18 → 0 ≤ mi 68 i) (h_b : -2147483648 ≤ b ∧ b ≤ 2147483647) : SPg yX7_nextOf cX7_nextOf 4 (some .int) 1 [.ref 58, iI b] mi mr (Pp mi mr (fun r => (∃ k : Int, 0 ≤ k ∧ k < mi 58 18 ∧ mi 67 k = b ∧ r = mi 68 k ∧ ∀ i : Int, 0 ≤ i → i < mi 58 18 → mi 67 i = b → r ≤ mi 68 i) ∨ (r = -1 ∧ ∀ i : Int, 0 ≤ i → i < mi 58 18 → mi 67 i ≠ b))) := by
  refine SPg.pure rfl (by decide +kernel) (Nat.le_of_ble_eq_true rfl) ?_
  show AWm RX7 cX7_nextOf 4 1 _ 0 [(0, .ref 58), (1, iI b)] [] mi mr
  refine aw_iconst dX7_nextOf_0 ?_
  refine aw_istore_n (i := 2) (lv' := [(0, .ref 58), (1, iI b), (2, iI (-1))]) [1, 2, 0] dX7_nextOf_1 rfl (by decide) rfl ?_
  refine aw_iconst dX7_nextOf_2 ?_
  refine aw_istore_n (i := 3) (lv' := [(0, .ref 58), (1, iI b), (2, iI (-1)), (3, iI 0)]) [1, 2, 3, 0] dX7_nextOf_3 rfl (by decide) rfl ?_
  exact l_nextOf hR ho ht0 h_b ((mi 58 18).toNat + 1) (-1) 0 (Or.inr ⟨rfl, fun i x1 x2 => by omega⟩) ⟨by omega, ho.1.1⟩ (by omega) (by have := ho.1; omega)
