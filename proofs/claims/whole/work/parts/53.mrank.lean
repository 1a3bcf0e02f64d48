-- part 53: the model: ranked, commandTime, commandBell, patternStrokes (printed by wip/whole/gen/p53.py)
/-- how many strokes of a list stand ahead of one -/
def ahP (s t : Str) : Prop := s.2.1 < t.2.1 ∨ (s.2.1 = t.2.1 ∧ s.1 < t.1)
noncomputable def rkL (L : List Str) (t : Str) : Int := ((L.countP (fun s => decide (s.2.1 < t.2.1 ∨ (s.2.1 = t.2.1 ∧ s.1 < t.1))) : Nat) : Int)
theorem rkL_perm {L M : List Str} (h : L.Perm M) (t : Str) : rkL L t = rkL M t := by unfold rkL; rw [h.countP_eq]
theorem rkL_cons (s : Str) (L : List Str) (t : Str) : rkL (s :: L) t = rkL L t + (if s.2.1 < t.2.1 ∨ (s.2.1 = t.2.1 ∧ s.1 < t.1) then 1 else 0) := by
  unfold rkL
  rw [List.countP_cons]
  by_cases h : s.2.1 < t.2.1 ∨ (s.2.1 = t.2.1 ∧ s.1 < t.1)
  · rw [if_pos h, if_pos (by simpa using h)]; omega
  · rw [if_neg h, if_neg (by simpa using h)]; omega
theorem rkL_succ (f : Int → Str) (n : Nat) (t : Str) : rkL (lst f (n + 1)) t = rkL (lst f n) t + (if (f n).2.1 < t.2.1 ∨ ((f n).2.1 = t.2.1 ∧ (f n).1 < t.1) then 1 else 0) := by
  rw [lst_succ, rkL_perm (List.perm_append_singleton _ _), rkL_cons]
theorem rkL_yes {f : Int → Str} {i : Nat} {g a : Int} {t : Str} (hg : g = rkL (lst f i) t) (h : (f i).2.1 < t.2.1 ∨ ((f i).2.1 = t.2.1 ∧ (f i).1 < t.1)) : g + 1 = rkL (lst f (i + 1)) t := by
  rw [rkL_succ, if_pos h, hg]
theorem rkL_not {f : Int → Str} {i : Nat} {g a : Int} {t : Str} (hg : g = rkL (lst f i) t) (h : ¬ ((f i).2.1 < t.2.1 ∨ ((f i).2.1 = t.2.1 ∧ (f i).1 < t.1))) : g + 0 = rkL (lst f (i + 1)) t := by
  rw [rkL_succ, if_neg h, hg]
theorem rkL_rng (L : List Str) (t : Str) : 0 ≤ rkL L t ∧ rkL L t ≤ (L.length : Int) := by
  unfold rkL
  have := List.countP_le_length (p := fun s : Str => decide (s.2.1 < t.2.1 ∨ (s.2.1 = t.2.1 ∧ s.1 < t.1))) (l := L)
  omega
theorem l_rk2 {mr : aR} (hR : Rok mr) {mi : aM} (ho : mOk mi) {x k : Int} (hx : 0 ≤ x) (h_x : -2147483648 ≤ x ∧ x ≤ 2147483647) (hk : 0 ≤ k ∧ k < mi 58 18) (kx : rkL (mL mi) (mS mi k) ≠ x → AWm RX7 cX7_ranked 5 1 (Pp mi mr (fun r => (x < 0 ∧ r = -3) ∨ (0 ≤ x ∧ ((0 ≤ r ∧ r < mi 58 18 ∧ rkL (mL mi) (mS mi r) = x) ∨ (r = -1 ∧ ∀ k : Int, 0 ≤ k → k < mi 58 18 → rkL (mL mi) (mS mi k) ≠ x))))) 9 [(0, .ref 58), (1, iI x), (2, iI (k + 1))] [] mi mr) : ∀ (n : Nat) (g z : Int) (i : Nat), g = rkL (lst (mS mi) i) (mS mi k) → z = (i : Int) → (0 ≤ z ∧ z ≤ mi 58 18) → mi 58 18 - z < n → AWm RX7 cX7_ranked 5 1 (Pp mi mr (fun r => (x < 0 ∧ r = -3) ∨ (0 ≤ x ∧ ((0 ≤ r ∧ r < mi 58 18 ∧ rkL (mL mi) (mS mi r) = x) ∨ (r = -1 ∧ ∀ k : Int, 0 ≤ k → k < mi 58 18 → rkL (mL mi) (mS mi k) ≠ x))))) 22 [(0, .ref 58), (1, iI x), (2, iI k), (3, iI g), (4, iI z)] [] mi mr := by
  intro n
  induction n with
  | zero => intro g z i hg hz h2 h3; omega
  | succ n ih =>
    intro g z i hg hz h2 h3
    have hc1 := ho.1
    refine aw_iload (i := 4) (q := 4) dX7_ranked_22 rfl ?_
    refine aw_aload_n (i := 0) (q := 0) dX7_ranked_24 rfl rfl ?_
    refine aw_getIk (x := mi 58 18) 18 flX7_171 SH_58 (by decide) rfl rfl rfl dX7_ranked_25 (fun r25 => ?_)
    refine aw_icmp_ge (tgt := 93) dX7_ranked_28 (by decide) (by first | assumption | omega) (by first | assumption | omega) (fun c28 => ?_) (fun c28 => ?_)
    · have hg9 : g = rkL (mL mi) (mS mi k) := by rw [hg, show i = (mi 58 18).toNat by omega]; rfl
      have hgr := rkL_rng (mL mi) (mS mi k)
      have hml := mL_len ho
      refine aw_iload_n (i := 3) (q := 3) dX7_ranked_93 rfl rfl ?_
      refine aw_iload_n (i := 1) (q := 1) dX7_ranked_94 rfl rfl ?_
      refine aw_icmp_ne (tgt := 100) dX7_ranked_95 (by decide) (by first | assumption | omega) (by first | assumption | omega) (fun c95 => ?_) (fun c95 => ?_)
      · refine aw_sub (lv' := [(0, .ref 58), (1, iI x), (2, iI k)]) [0, 1, 2] rfl ?_
        refine aw_iinc (i := 2) (q := 2) (x := k) (lv' := [(0, .ref 58), (1, iI x), (2, iI (k + 1))]) [1, 2, 0] dX7_ranked_100 rfl (by decide) rfl ?_
        refine aw_goto (tgt := 9) dX7_ranked_103 (by decide) ?_
        exact kx (by omega)
      · refine aw_iload_n (i := 2) (q := 2) dX7_ranked_98 rfl rfl ?_
        exact aw_iret ⟨_, rfl, rfl, rfl, rfl, (Or.inr ⟨hx, Or.inl ⟨by omega, by omega, by omega⟩⟩)⟩ (Nat.le_refl _) (Nat.le_refl _) dX7_ranked_99
    · refine aw_iload_n (i := 3) (q := 3) dX7_ranked_31 rfl rfl ?_
      refine aw_aload_n (i := 0) (q := 0) dX7_ranked_32 rfl rfl ?_
      refine aw_getR (r := 69) flX7_45 SH_58 (by decide) rfl (rk_58_16 hR) dX7_ranked_33 ?_
      refine aw_iload (i := 4) (q := 4) dX7_ranked_36 rfl ?_
      refine aw_ialdv (x := mi 69 z) SH_69 (by decide) ⟨by omega, by omega⟩ rfl dX7_ranked_38 (fun r38 => ?_)
      refine aw_aload_n (i := 0) (q := 0) dX7_ranked_39 rfl rfl ?_
      refine aw_getR (r := 69) flX7_45 SH_58 (by decide) rfl (rk_58_16 hR) dX7_ranked_40 ?_
      refine aw_iload_n (i := 2) (q := 2) dX7_ranked_43 rfl rfl ?_
      refine aw_ialdv (x := mi 69 k) SH_69 (by decide) ⟨by omega, by omega⟩ rfl dX7_ranked_44 (fun r44 => ?_)
      refine aw_icmp_lt (tgt := 80) dX7_ranked_45 (by decide) (by first | assumption | omega) (by first | assumption | omega) (fun c45 => ?_) (fun c45 => ?_)
      · refine aw_iconst dX7_ranked_80 ?_
        refine aw_goto (tgt := 85) dX7_ranked_81 (by decide) ?_
        refine aw_iadd dX7_ranked_85 ?_
        refine aw_istore_n (i := 3) (lv' := [(0, .ref 58), (1, iI x), (2, iI k), (3, iI (g + 1)), (4, iI z)]) [1, 2, 3, 0, 4] dX7_ranked_86 rfl (by decide) rfl ?_
        refine aw_iinc (i := 4) (q := 4) (x := z) (lv' := [(0, .ref 58), (1, iI x), (2, iI k), (3, iI (g + 1)), (4, iI (z + 1))]) [1, 2, 3, 4, 0] dX7_ranked_87 rfl (by decide) rfl ?_
        refine aw_goto (tgt := 22) dX7_ranked_90 (by decide) ?_
        exact ih _ _ (i + 1) (rkL_yes (f := mS mi) (a := 0) hg (by rw [← hz]; show (mi 69 z < mi 69 k ∨ (mi 69 z = mi 69 k ∧ mi 67 z < mi 67 k)); omega)) (by omega) (by omega) (by omega)
      · refine aw_aload_n (i := 0) (q := 0) dX7_ranked_48 rfl rfl ?_
        refine aw_getR (r := 69) flX7_45 SH_58 (by decide) rfl (rk_58_16 hR) dX7_ranked_49 ?_
        refine aw_iload (i := 4) (q := 4) dX7_ranked_52 rfl ?_
        refine aw_ialdv (x := mi 69 z) SH_69 (by decide) ⟨by omega, by omega⟩ rfl dX7_ranked_54 (fun r54 => ?_)
        refine aw_aload_n (i := 0) (q := 0) dX7_ranked_55 rfl rfl ?_
        refine aw_getR (r := 69) flX7_45 SH_58 (by decide) rfl (rk_58_16 hR) dX7_ranked_56 ?_
        refine aw_iload_n (i := 2) (q := 2) dX7_ranked_59 rfl rfl ?_
        refine aw_ialdv (x := mi 69 k) SH_69 (by decide) ⟨by omega, by omega⟩ rfl dX7_ranked_60 (fun r60 => ?_)
        refine aw_icmp_ne (tgt := 84) dX7_ranked_61 (by decide) (by first | assumption | omega) (by first | assumption | omega) (fun c61 => ?_) (fun c61 => ?_)
        · refine aw_iconst dX7_ranked_84 ?_
          refine aw_iadd dX7_ranked_85 ?_
          refine aw_istore_n (i := 3) (lv' := [(0, .ref 58), (1, iI x), (2, iI k), (3, iI (g + 0)), (4, iI z)]) [1, 2, 3, 0, 4] dX7_ranked_86 rfl (by decide) rfl ?_
          refine aw_iinc (i := 4) (q := 4) (x := z) (lv' := [(0, .ref 58), (1, iI x), (2, iI k), (3, iI (g + 0)), (4, iI (z + 1))]) [1, 2, 3, 4, 0] dX7_ranked_87 rfl (by decide) rfl ?_
          refine aw_goto (tgt := 22) dX7_ranked_90 (by decide) ?_
          exact ih _ _ (i + 1) (rkL_not (f := mS mi) (a := 0) hg (by rw [← hz]; show ¬ (mi 69 z < mi 69 k ∨ (mi 69 z = mi 69 k ∧ mi 67 z < mi 67 k)); omega)) (by omega) (by omega) (by omega)
        · refine aw_aload_n (i := 0) (q := 0) dX7_ranked_64 rfl rfl ?_
          refine aw_getR (r := 67) flX7_39 SH_58 (by decide) rfl (rk_58_14 hR) dX7_ranked_65 ?_
          refine aw_iload (i := 4) (q := 4) dX7_ranked_68 rfl ?_
          refine aw_ialdv (x := mi 67 z) SH_67 (by decide) ⟨by omega, by omega⟩ rfl dX7_ranked_70 (fun r70 => ?_)
          refine aw_aload_n (i := 0) (q := 0) dX7_ranked_71 rfl rfl ?_
          refine aw_getR (r := 67) flX7_39 SH_58 (by decide) rfl (rk_58_14 hR) dX7_ranked_72 ?_
          refine aw_iload_n (i := 2) (q := 2) dX7_ranked_75 rfl rfl ?_
          refine aw_ialdv (x := mi 67 k) SH_67 (by decide) ⟨by omega, by omega⟩ rfl dX7_ranked_76 (fun r76 => ?_)
          refine aw_icmp_ge (tgt := 84) dX7_ranked_77 (by decide) (by first | assumption | omega) (by first | assumption | omega) (fun c77 => ?_) (fun c77 => ?_)
          · refine aw_iconst dX7_ranked_84 ?_
            refine aw_iadd dX7_ranked_85 ?_
            refine aw_istore_n (i := 3) (lv' := [(0, .ref 58), (1, iI x), (2, iI k), (3, iI (g + 0)), (4, iI z)]) [1, 2, 3, 0, 4] dX7_ranked_86 rfl (by decide) rfl ?_
            refine aw_iinc (i := 4) (q := 4) (x := z) (lv' := [(0, .ref 58), (1, iI x), (2, iI k), (3, iI (g + 0)), (4, iI (z + 1))]) [1, 2, 3, 4, 0] dX7_ranked_87 rfl (by decide) rfl ?_
            refine aw_goto (tgt := 22) dX7_ranked_90 (by decide) ?_
            exact ih _ _ (i + 1) (rkL_not (f := mS mi) (a := 0) hg (by rw [← hz]; show ¬ (mi 69 z < mi 69 k ∨ (mi 69 z = mi 69 k ∧ mi 67 z < mi 67 k)); omega)) (by omega) (by omega) (by omega)
          · refine aw_iconst dX7_ranked_80 ?_
            refine aw_goto (tgt := 85) dX7_ranked_81 (by decide) ?_
            refine aw_iadd dX7_ranked_85 ?_
            refine aw_istore_n (i := 3) (lv' := [(0, .ref 58), (1, iI x), (2, iI k), (3, iI (g + 1)), (4, iI z)]) [1, 2, 3, 0, 4] dX7_ranked_86 rfl (by decide) rfl ?_
            refine aw_iinc (i := 4) (q := 4) (x := z) (lv' := [(0, .ref 58), (1, iI x), (2, iI k), (3, iI (g + 1)), (4, iI (z + 1))]) [1, 2, 3, 4, 0] dX7_ranked_87 rfl (by decide) rfl ?_
            refine aw_goto (tgt := 22) dX7_ranked_90 (by decide) ?_
            exact ih _ _ (i + 1) (rkL_yes (f := mS mi) (a := 0) hg (by rw [← hz]; show (mi 69 z < mi 69 k ∨ (mi 69 z = mi 69 k ∧ mi 67 z < mi 67 k)); omega)) (by omega) (by omega) (by omega)
theorem l_rk1 {mr : aR} (hR : Rok mr) {mi : aM} (ho : mOk mi) {x : Int} (hx : 0 ≤ x) (h_x : -2147483648 ≤ x ∧ x ≤ 2147483647) : ∀ (n : Nat) (k : Int), (∀ j : Int, 0 ≤ j → j < k → rkL (mL mi) (mS mi j) ≠ x) → (0 ≤ k ∧ k ≤ mi 58 18) → mi 58 18 - k < n → AWm RX7 cX7_ranked 5 1 (Pp mi mr (fun r => (x < 0 ∧ r = -3) ∨ (0 ≤ x ∧ ((0 ≤ r ∧ r < mi 58 18 ∧ rkL (mL mi) (mS mi r) = x) ∨ (r = -1 ∧ ∀ k : Int, 0 ≤ k → k < mi 58 18 → rkL (mL mi) (mS mi k) ≠ x))))) 9 [(0, .ref 58), (1, iI x), (2, iI k)] [] mi mr := by
  intro n
  induction n with
  | zero => intro k hlow h2 h3; omega
  | succ n ih =>
    intro k hlow h2 h3
    have hc1 := ho.1
    refine aw_iload_n (i := 2) (q := 2) dX7_ranked_9 rfl rfl ?_
    refine aw_aload_n (i := 0) (q := 0) dX7_ranked_10 rfl rfl ?_
    refine aw_getIk (x := mi 58 18) 18 flX7_171 SH_58 (by decide) rfl rfl rfl dX7_ranked_11 (fun r11 => ?_)
    refine aw_icmp_ge (tgt := 106) dX7_ranked_14 (by decide) (by first | assumption | omega) (by first | assumption | omega) (fun c14 => ?_) (fun c14 => ?_)
    · refine aw_iconst dX7_ranked_106 ?_
      exact aw_iret ⟨_, rfl, rfl, rfl, rfl, (Or.inr ⟨hx, Or.inr ⟨rfl, fun j j0 j1 => hlow j j0 (by omega)⟩⟩)⟩ (Nat.le_refl _) (Nat.le_refl _) dX7_ranked_107
    · refine aw_iconst dX7_ranked_17 ?_
      refine aw_istore_n (i := 3) (lv' := [(0, .ref 58), (1, iI x), (2, iI k), (3, iI 0)]) [1, 2, 3, 0] dX7_ranked_18 rfl (by decide) rfl ?_
      refine aw_iconst dX7_ranked_19 ?_
      refine aw_istore (i := 4) (lv' := [(0, .ref 58), (1, iI x), (2, iI k), (3, iI 0), (4, iI 0)]) [1, 2, 3, 4, 0] dX7_ranked_20 (by decide) rfl ?_
      exact l_rk2 hR ho hx (by omega) (by omega) (fun hne => ih (k + 1) (fun j j0 j1 => by by_cases e9 : j = k; (subst e9; exact hne); (exact hlow j j0 (by omega))) (by omega) (by omega)) ((mi 58 18).toNat + 1) 0 0 0 rfl rfl (by omega) (by omega)
theorem s_X7_ranked {mr : aR} (hR : Rok mr) {mi : aM} {x : Int} (h_x : -2147483648 ≤ x ∧ x ≤ 2147483647) (ho : mOk mi) : SPg yX7_ranked cX7_ranked 5 (some .int) 1 [.ref 58, iI x] mi mr (Pp mi mr (fun r => (x < 0 ∧ r = -3) ∨ (0 ≤ x ∧ ((0 ≤ r ∧ r < mi 58 18 ∧ rkL (mL mi) (mS mi r) = x) ∨ (r = -1 ∧ ∀ k : Int, 0 ≤ k → k < mi 58 18 → rkL (mL mi) (mS mi k) ≠ x))))) := by
  refine SPg.pure rfl (by decide +kernel) (Nat.le_of_ble_eq_true rfl) ?_
  show AWm RX7 cX7_ranked 5 1 _ 0 [(0, .ref 58), (1, iI x)] [] mi mr
  have hc1 := ho.1
  refine aw_iload_n (i := 1) (q := 1) dX7_ranked_0 rfl rfl ?_
  refine aw_if_ge (tgt := 7) dX7_ranked_1 (by decide) (by first | assumption | omega) (fun c1 => ?_) (fun c1 => ?_)
  · refine aw_iconst dX7_ranked_7 ?_
    refine aw_istore_n (i := 2) (lv' := [(0, .ref 58), (1, iI x), (2, iI 0)]) [1, 2, 0] dX7_ranked_8 rfl (by decide) rfl ?_
    exact l_rk1 hR ho (by omega) (by omega) ((mi 58 18).toNat + 1) 0 (fun j j0 j1 => by omega) (by omega) (by omega)
  · refine aw_bipush (x := -3) dX7_ranked_4 rfl ?_
    exact aw_iret ⟨_, rfl, rfl, rfl, rfl, (Or.inl ⟨by omega, rfl⟩)⟩ (Nat.le_refl _) (Nat.le_refl _) dX7_ranked_6
theorem t_commandTime {mr : aR} (hR : Rok mr) {mi : aM} {x : Int} (h_x : -2147483648 ≤ x ∧ x ≤ 2147483647) (ho : mOk mi) : AWm RX7 cX7_commandTime 3 2 (Pi mr (fun r m => m = mi ∧ ((x < 0 ∧ r = -3) ∨ (0 ≤ x ∧ ((∃ s ∈ mL mi, rkL (mL mi) s = x ∧ r = s.2.1) ∨ (r = -1 ∧ ∀ s ∈ mL mi, rkL (mL mi) s ≠ x)))))) 5 [(0, .ref 58), (1, iI x)] [] mi mr := by
  have hc1 := ho.1
  refine aw_aload_n (i := 0) (q := 0) dX7_commandTime_5 rfl rfl ?_
  refine aw_iload_n (i := 1) (q := 1) dX7_commandTime_6 rfl rfl ?_
  refine aw_cVp (As := [iI x]) (st := []) clX7_193 (s_X7_ranked hR (by omega) ho) SH_58 rfl (by decide) rfl rfl (Nat.le_of_ble_eq_true rfl) (by decide) (by decide) (Nat.le_refl _) (Nat.le_refl _) dX7_commandTime_7 (fun v7 hv7 => ?_)
  have hv7r : -3 ≤ v7 ∧ v7 < 300 := by rcases hv7 with q | ⟨-, q | q⟩; (have := q.2; omega); (have := q.1; have := q.2.1; omega); (have := q.1; omega)
  refine aw_istore_n (i := 2) (lv' := [(0, .ref 58), (1, iI x), (2, iI v7)]) [1, 2, 0] dX7_commandTime_10 rfl (by decide) rfl ?_
  refine aw_iload_n (i := 2) (q := 2) dX7_commandTime_11 rfl rfl ?_
  refine aw_if_ge (tgt := 19) dX7_commandTime_12 (by decide) (by first | assumption | omega) (fun c12 => ?_) (fun c12 => ?_)
  · refine aw_aload_n (i := 0) (q := 0) dX7_commandTime_19 rfl rfl ?_
    refine aw_getR (r := 69) flX7_45 SH_58 (by decide) rfl (rk_58_16 hR) dX7_commandTime_20 ?_
    refine aw_iload_n (i := 2) (q := 2) dX7_commandTime_23 rfl rfl ?_
    refine aw_ialdv (x := mi 69 v7) SH_69 (by decide) ⟨by omega, by omega⟩ rfl dX7_commandTime_24 (fun r24 => ?_)
    exact aw_iret ⟨_, rfl, rfl, rfl, rfl, (by rcases hv7 with q | ⟨q0, q | q⟩; (exfalso; have := q.2; omega); (exact Or.inr ⟨q0, Or.inl ⟨mS mi v7, (mL_mem ho).mpr ⟨v7, q.1, q.2.1, rfl⟩, q.2.2, rfl⟩⟩); (exfalso; have := q.1; omega))⟩ (Nat.le_refl _) (Nat.le_refl _) dX7_commandTime_25
  · refine aw_iload_n (i := 2) (q := 2) dX7_commandTime_15 rfl rfl ?_
    refine aw_goto (tgt := 25) dX7_commandTime_16 (by decide) ?_
    exact aw_iret ⟨_, rfl, rfl, rfl, rfl, (by rcases hv7 with q | ⟨q0, q | q⟩; (exact Or.inl q); (exfalso; have := q.1; omega); (exact Or.inr ⟨q0, Or.inr ⟨q.1, fun s hs => by obtain ⟨i, i0, i1, i2⟩ := (mL_mem ho).mp hs; rw [← i2]; exact q.2 i i0 i1⟩⟩))⟩ (Nat.le_refl _) (Nat.le_refl _) dX7_commandTime_25
theorem s_X7_commandTime {mr : aR} (hR : Rok mr) {mi : aM} {x : Int} (h_x : -2147483648 ≤ x ∧ x ≤ 2147483647) (ho : mOk (aup mi 58 0 0)) : SPg yX7_commandTime cX7_commandTime 3 (some .int) 2 [.ref 58, iI x] mi mr (Pi mr (fun r m => m = (aup mi 58 0 0) ∧ ((x < 0 ∧ r = -3) ∨ (0 ≤ x ∧ ((∃ s ∈ mL (aup mi 58 0 0), rkL (mL (aup mi 58 0 0)) s = x ∧ r = s.2.1) ∨ (r = -1 ∧ ∀ s ∈ mL (aup mi 58 0 0), rkL (mL (aup mi 58 0 0)) s ≠ x)))))) := by
  refine SPg.int rfl (by decide +kernel) (Nat.le_of_ble_eq_true rfl) ?_
  show AWm RX7 cX7_commandTime 3 2 _ 0 [(0, .ref 58), (1, iI x)] [] mi mr
  refine aw_aload_n (i := 0) (q := 0) dX7_commandTime_0 rfl rfl ?_
  refine aw_iconst dX7_commandTime_1 ?_
  refine aw_putIk 0 flX7_1 SH_58 (by decide) rfl rfl rfl (by decide) dX7_commandTime_2 ?_
  exact t_commandTime (mi := aup mi 58 0 0) hR h_x ho
theorem t_commandBell {mr : aR} (hR : Rok mr) {mi : aM} {x : Int} (h_x : -2147483648 ≤ x ∧ x ≤ 2147483647) (ho : mOk mi) : AWm RX7 cX7_commandBell 3 2 (Pi mr (fun r m => m = mi ∧ ((x < 0 ∧ r = -3) ∨ (0 ≤ x ∧ ((∃ s ∈ mL mi, rkL (mL mi) s = x ∧ r = s.1) ∨ (r = -1 ∧ ∀ s ∈ mL mi, rkL (mL mi) s ≠ x)))))) 5 [(0, .ref 58), (1, iI x)] [] mi mr := by
  have hc1 := ho.1
  refine aw_aload_n (i := 0) (q := 0) dX7_commandBell_5 rfl rfl ?_
  refine aw_iload_n (i := 1) (q := 1) dX7_commandBell_6 rfl rfl ?_
  refine aw_cVp (As := [iI x]) (st := []) clX7_193 (s_X7_ranked hR (by omega) ho) SH_58 rfl (by decide) rfl rfl (Nat.le_of_ble_eq_true rfl) (by decide) (by decide) (Nat.le_refl _) (Nat.le_refl _) dX7_commandBell_7 (fun v7 hv7 => ?_)
  have hv7r : -3 ≤ v7 ∧ v7 < 300 := by rcases hv7 with q | ⟨-, q | q⟩; (have := q.2; omega); (have := q.1; have := q.2.1; omega); (have := q.1; omega)
  refine aw_istore_n (i := 2) (lv' := [(0, .ref 58), (1, iI x), (2, iI v7)]) [1, 2, 0] dX7_commandBell_10 rfl (by decide) rfl ?_
  refine aw_iload_n (i := 2) (q := 2) dX7_commandBell_11 rfl rfl ?_
  refine aw_if_ge (tgt := 19) dX7_commandBell_12 (by decide) (by first | assumption | omega) (fun c12 => ?_) (fun c12 => ?_)
  · refine aw_aload_n (i := 0) (q := 0) dX7_commandBell_19 rfl rfl ?_
    refine aw_getR (r := 67) flX7_39 SH_58 (by decide) rfl (rk_58_14 hR) dX7_commandBell_20 ?_
    refine aw_iload_n (i := 2) (q := 2) dX7_commandBell_23 rfl rfl ?_
    refine aw_ialdv (x := mi 67 v7) SH_67 (by decide) ⟨by omega, by omega⟩ rfl dX7_commandBell_24 (fun r24 => ?_)
    exact aw_iret ⟨_, rfl, rfl, rfl, rfl, (by rcases hv7 with q | ⟨q0, q | q⟩; (exfalso; have := q.2; omega); (exact Or.inr ⟨q0, Or.inl ⟨mS mi v7, (mL_mem ho).mpr ⟨v7, q.1, q.2.1, rfl⟩, q.2.2, rfl⟩⟩); (exfalso; have := q.1; omega))⟩ (Nat.le_refl _) (Nat.le_refl _) dX7_commandBell_25
  · refine aw_iload_n (i := 2) (q := 2) dX7_commandBell_15 rfl rfl ?_
    refine aw_goto (tgt := 25) dX7_commandBell_16 (by decide) ?_
    exact aw_iret ⟨_, rfl, rfl, rfl, rfl, (by rcases hv7 with q | ⟨q0, q | q⟩; (exact Or.inl q); (exfalso; have := q.1; omega); (exact Or.inr ⟨q0, Or.inr ⟨q.1, fun s hs => by obtain ⟨i, i0, i1, i2⟩ := (mL_mem ho).mp hs; rw [← i2]; exact q.2 i i0 i1⟩⟩))⟩ (Nat.le_refl _) (Nat.le_refl _) dX7_commandBell_25
theorem s_X7_commandBell {mr : aR} (hR : Rok mr) {mi : aM} {x : Int} (h_x : -2147483648 ≤ x ∧ x ≤ 2147483647) (ho : mOk (aup mi 58 0 0)) : SPg yX7_commandBell cX7_commandBell 3 (some .int) 2 [.ref 58, iI x] mi mr (Pi mr (fun r m => m = (aup mi 58 0 0) ∧ ((x < 0 ∧ r = -3) ∨ (0 ≤ x ∧ ((∃ s ∈ mL (aup mi 58 0 0), rkL (mL (aup mi 58 0 0)) s = x ∧ r = s.1) ∨ (r = -1 ∧ ∀ s ∈ mL (aup mi 58 0 0), rkL (mL (aup mi 58 0 0)) s ≠ x)))))) := by
  refine SPg.int rfl (by decide +kernel) (Nat.le_of_ble_eq_true rfl) ?_
  show AWm RX7 cX7_commandBell 3 2 _ 0 [(0, .ref 58), (1, iI x)] [] mi mr
  refine aw_aload_n (i := 0) (q := 0) dX7_commandBell_0 rfl rfl ?_
  refine aw_iconst dX7_commandBell_1 ?_
  refine aw_putIk 0 flX7_1 SH_58 (by decide) rfl rfl rfl (by decide) dX7_commandBell_2 ?_
  exact t_commandBell (mi := aup mi 58 0 0) hR h_x ho
theorem l_mps2 {mr : aR} (hR : Rok mr) {mi : aM} {w z : Int} {i : Nat} (hB : mB mi) (hp : pM mi) (hw : 0 ≤ w ∧ w < 5) (hzi : z = (i : Int)) (hz : 0 ≤ z ∧ z < mi 73 w) (kx : ∀ g : Int, g + ((outL (fun k => mi 72 (100 * w + k)) (mi 58 6).toNat 0 0 ((mi 73 w).toNat - (i + 1)) (i + 1)).length : Int) = ((outL (fun k => mi 72 (100 * w + k)) (mi 58 6).toNat 0 0 (mi 73 w).toNat 0).length : Int) → AWm RX7 cX7_patternStrokes 5 3 (Pi mr (fun r m => m = mi ∧ r = if 0 ≤ w ∧ w < 5 then (if mi 73 w = 0 then -9 else ((outL (fun k => mi 72 (100 * w + k)) (mi 58 6).toNat 0 0 (mi 73 w).toNat 0).length : Int)) else -2)) 31 [(0, .ref 58), (1, iI w), (2, iI g), (3, iI (z + 1))] [] mi mr) : ∀ (n : Nat) (g y : Int) (j : Nat), g + ((innL (mi 72 (100 * w + z)) 0 ((mi 58 6).toNat - j) j).length : Int) + ((outL (fun k => mi 72 (100 * w + k)) (mi 58 6).toNat 0 0 ((mi 73 w).toNat - (i + 1)) (i + 1)).length : Int) = ((outL (fun k => mi 72 (100 * w + k)) (mi 58 6).toNat 0 0 (mi 73 w).toNat 0).length : Int) → y = (j : Int) → (0 ≤ y ∧ y ≤ mi 58 6) → mi 58 6 - y < n → AWm RX7 cX7_patternStrokes 5 3 (Pi mr (fun r m => m = mi ∧ r = if 0 ≤ w ∧ w < 5 then (if mi 73 w = 0 then -9 else ((outL (fun k => mi 72 (100 * w + k)) (mi 58 6).toNat 0 0 (mi 73 w).toNat 0).length : Int)) else -2)) 44 [(0, .ref 58), (1, iI w), (2, iI g), (3, iI z), (4, iI y)] [] mi mr := by
  intro n
  induction n with
  | zero => intro g y j hI hyj h2 h3; omega
  | succ n ih =>
    intro g y j hI hyj h2 h3
    have hn := hB.1
    have hpw := (hp w hw.1 hw.2).1
    refine aw_iload (i := 4) (q := 4) dX7_patternStrokes_44 rfl ?_
    refine aw_aload_n (i := 0) (q := 0) dX7_patternStrokes_46 rfl rfl ?_
    refine aw_getIk (x := mi 58 6) 6 flX7_132 SH_58 (by decide) rfl rfl rfl dX7_patternStrokes_47 (fun r47 => ?_)
    refine aw_icmp_ge (tgt := 78) dX7_patternStrokes_50 (by decide) (by first | assumption | omega) (by first | assumption | omega) (fun c50 => ?_) (fun c50 => ?_)
    · refine aw_sub (lv' := [(0, .ref 58), (1, iI w), (2, iI g), (3, iI z)]) [0, 1, 2, 3] rfl ?_
      refine aw_iinc (i := 3) (q := 3) (x := z) (lv' := [(0, .ref 58), (1, iI w), (2, iI g), (3, iI (z + 1))]) [1, 2, 3, 0] dX7_patternStrokes_78 rfl (by decide) rfl ?_
      refine aw_goto (tgt := 31) dX7_patternStrokes_81 (by decide) ?_
      rw [show (mi 58 6).toNat - j = 0 by omega] at hI
      exact kx _ (by rw [show (innL (mi 72 (100 * w + z)) 0 0 j).length = 0 from rfl] at hI; omega)
    · have hst9 := (hp w hw.1 hw.2).2 z (by omega) (by omega)
      refine aw_iload_n (i := 2) (q := 2) dX7_patternStrokes_53 rfl rfl ?_
      refine aw_aload_n (i := 0) (q := 0) dX7_patternStrokes_54 rfl rfl ?_
      refine aw_getR (r := 72) flX7_54 SH_58 (by decide) rfl (rk_58_20 hR) dX7_patternStrokes_55 ?_
      refine aw_bipush (x := 100) dX7_patternStrokes_58 rfl ?_
      refine aw_iload_n (i := 1) (q := 1) dX7_patternStrokes_60 rfl rfl ?_
      refine aw_imul dX7_patternStrokes_61 ?_
      refine aw_iload_n (i := 3) (q := 3) dX7_patternStrokes_62 rfl rfl ?_
      refine aw_iadd dX7_patternStrokes_63 ?_
      refine aw_ialdv (x := mi 72 ((100 * w) + z)) SH_72 (by decide) ⟨by omega, by omega⟩ rfl dX7_patternStrokes_64 (fun r64 => ?_)
      refine aw_iload (i := 4) (q := 4) dX7_patternStrokes_65 rfl ?_
      refine aw_ishr (z := (((mi 72 ((100 * w) + z)).toNat / 2 ^ (y).toNat : Nat) : Int)) dX7_patternStrokes_67 (bt_shr (by omega) (by omega)) ?_
      refine aw_iconst dX7_patternStrokes_68 ?_
      obtain ⟨bw69, hbw69, hbt69⟩ := bit_w (mi 72 ((100 * w) + z)) y
      refine aw_iand (z := bw69) dX7_patternStrokes_69 (by rw [hbw69]; exact bt_and (shr_rng (by omega)) (by decide)) ?_
      refine aw_iadd dX7_patternStrokes_70 ?_
      refine aw_istore_n (i := 2) (lv' := [(0, .ref 58), (1, iI w), (2, iI (g + bw69)), (3, iI z), (4, iI y)]) [1, 2, 0, 3, 4] dX7_patternStrokes_71 rfl (by decide) rfl ?_
      refine aw_iinc (i := 4) (q := 4) (x := y) (lv' := [(0, .ref 58), (1, iI w), (2, iI (g + bw69)), (3, iI z), (4, iI (y + 1))]) [1, 2, 3, 4, 0] dX7_patternStrokes_72 rfl (by decide) rfl ?_
      refine aw_goto (tgt := 44) dX7_patternStrokes_75 (by decide) ?_
      have hjy : y.toNat = j := by omega
      rw [show (mi 58 6).toNat - j = ((mi 58 6).toNat - (j + 1)) + 1 by omega] at hI
      rcases hbt69 with ⟨q1, q2⟩ | ⟨q1, q2⟩
      · rw [innL_yes (by rw [← hjy]; exact q1), List.length_cons] at hI; exact ih _ _ (j + 1) (by omega) (by omega) (by omega) (by omega)
      · rw [innL_not (by rw [← hjy]; exact q1)] at hI; exact ih _ _ (j + 1) (by omega) (by omega) (by omega) (by omega)
theorem l_mps1 {mr : aR} (hR : Rok mr) {mi : aM} {w : Int} (hB : mB mi) (hp : pM mi) (hw : 0 ≤ w ∧ w < 5) (h0 : mi 73 w ≠ 0) : ∀ (n : Nat) (g z : Int) (i : Nat), g + ((outL (fun k => mi 72 (100 * w + k)) (mi 58 6).toNat 0 0 ((mi 73 w).toNat - i) i).length : Int) = ((outL (fun k => mi 72 (100 * w + k)) (mi 58 6).toNat 0 0 (mi 73 w).toNat 0).length : Int) → z = (i : Int) → (0 ≤ z ∧ z ≤ mi 73 w) → mi 73 w - z < n → AWm RX7 cX7_patternStrokes 5 3 (Pi mr (fun r m => m = mi ∧ r = if 0 ≤ w ∧ w < 5 then (if mi 73 w = 0 then -9 else ((outL (fun k => mi 72 (100 * w + k)) (mi 58 6).toNat 0 0 (mi 73 w).toNat 0).length : Int)) else -2)) 31 [(0, .ref 58), (1, iI w), (2, iI g), (3, iI z)] [] mi mr := by
  intro n
  induction n with
  | zero => intro g z i hI hz h2 h3; omega
  | succ n ih =>
    intro g z i hI hz h2 h3
    have hn := hB.1
    have hpw := (hp w hw.1 hw.2).1
    refine aw_iload_n (i := 3) (q := 3) dX7_patternStrokes_31 rfl rfl ?_
    refine aw_aload_n (i := 0) (q := 0) dX7_patternStrokes_32 rfl rfl ?_
    refine aw_getR (r := 73) flX7_57 SH_58 (by decide) rfl (rk_58_21 hR) dX7_patternStrokes_33 ?_
    refine aw_iload_n (i := 1) (q := 1) dX7_patternStrokes_36 rfl rfl ?_
    refine aw_ialdv (x := mi 73 w) SH_73 (by decide) ⟨by omega, by omega⟩ rfl dX7_patternStrokes_37 (fun r37 => ?_)
    refine aw_icmp_ge (tgt := 84) dX7_patternStrokes_38 (by decide) (by first | assumption | omega) (by first | assumption | omega) (fun c38 => ?_) (fun c38 => ?_)
    · refine aw_iload_n (i := 2) (q := 2) dX7_patternStrokes_84 rfl rfl ?_
      exact aw_iret ⟨_, rfl, rfl, rfl, rfl, (by rw [if_pos hw, if_neg h0]; rw [show (mi 73 w).toNat - i = 0 by omega] at hI; rw [← hI, show (outL (fun k => mi 72 (100 * w + k)) (mi 58 6).toNat 0 0 0 i).length = 0 from rfl]; omega)⟩ (Nat.le_refl _) (Nat.le_refl _) dX7_patternStrokes_85
    · refine aw_iconst dX7_patternStrokes_41 ?_
      refine aw_istore (i := 4) (lv' := [(0, .ref 58), (1, iI w), (2, iI g), (3, iI z), (4, iI 0)]) [1, 2, 3, 4, 0] dX7_patternStrokes_42 (by decide) rfl ?_
      rw [show (mi 73 w).toNat - i = ((mi 73 w).toNat - (i + 1)) + 1 by omega, outL_s, List.length_append] at hI
      exact l_mps2 hR hB hp hw hz (by omega) (fun g h => ih g (z + 1) (i + 1) h (by omega) (by omega) (by omega)) ((mi 58 6).toNat + 1) g 0 0 (by rw [hz] at *; rw [show (0 : Int) + (i : Int) * 0 = 0 by omega] at hI; rw [Nat.sub_zero]; omega) rfl (by omega) (by omega)
theorem t_patternStrokes {mr : aR} (hR : Rok mr) {mi : aM} {w : Int} (h_w : -2147483648 ≤ w ∧ w ≤ 2147483647) (hB : mB mi) (hp : pM mi) : AWm RX7 cX7_patternStrokes 5 3 (Pi mr (fun r m => m = mi ∧ r = if 0 ≤ w ∧ w < 5 then (if mi 73 w = 0 then -9 else ((outL (fun k => mi 72 (100 * w + k)) (mi 58 6).toNat 0 0 (mi 73 w).toNat 0).length : Int)) else -2)) 5 [(0, .ref 58), (1, iI w)] [] mi mr := by
  have hn := hB.1
  refine aw_iload_n (i := 1) (q := 1) dX7_patternStrokes_5 rfl rfl ?_
  refine aw_cSp (As := [iI w]) (st := []) clX7_252 (s_X7_isPattern hR (by omega)) rfl rfl (Nat.le_of_ble_eq_true rfl) (by decide) (by decide) (Nat.le_refl _) (Nat.le_refl _) dX7_patternStrokes_6 (fun v6 hv6 => ?_)
  refine aw_if_ne (tgt := 15) dX7_patternStrokes_9 (by decide) (by first | assumption | omega) (fun c9 => ?_) (fun c9 => ?_)
  · have hpw := (hp w (by omega) (by omega)).1
    refine aw_aload_n (i := 0) (q := 0) dX7_patternStrokes_15 rfl rfl ?_
    refine aw_getR (r := 73) flX7_57 SH_58 (by decide) rfl (rk_58_21 hR) dX7_patternStrokes_16 ?_
    refine aw_iload_n (i := 1) (q := 1) dX7_patternStrokes_19 rfl rfl ?_
    refine aw_ialdv (x := mi 73 w) SH_73 (by decide) ⟨by omega, by omega⟩ rfl dX7_patternStrokes_20 (fun r20 => ?_)
    refine aw_if_ne (tgt := 27) dX7_patternStrokes_21 (by decide) (by first | assumption | omega) (fun c21 => ?_) (fun c21 => ?_)
    · refine aw_iconst dX7_patternStrokes_27 ?_
      refine aw_istore_n (i := 2) (lv' := [(0, .ref 58), (1, iI w), (2, iI 0)]) [1, 2, 0] dX7_patternStrokes_28 rfl (by decide) rfl ?_
      refine aw_iconst dX7_patternStrokes_29 ?_
      refine aw_istore_n (i := 3) (lv' := [(0, .ref 58), (1, iI w), (2, iI 0), (3, iI 0)]) [1, 2, 3, 0] dX7_patternStrokes_30 rfl (by decide) rfl ?_
      exact l_mps1 hR hB hp ⟨by omega, by omega⟩ (by omega) ((mi 73 w).toNat + 1) 0 0 0 (by rw [Nat.sub_zero]; omega) rfl (by omega) (by omega)
    · refine aw_bipush (x := -9) dX7_patternStrokes_24 rfl ?_
      exact aw_iret ⟨_, rfl, rfl, rfl, rfl, (by (repeat' split) <;> omega)⟩ (Nat.le_refl _) (Nat.le_refl _) dX7_patternStrokes_26
  · refine aw_bipush (x := -2) dX7_patternStrokes_12 rfl ?_
    exact aw_iret ⟨_, rfl, rfl, rfl, rfl, (by (repeat' split) <;> omega)⟩ (Nat.le_refl _) (Nat.le_refl _) dX7_patternStrokes_14
theorem s_X7_patternStrokes {mr : aR} (hR : Rok mr) {mi : aM} {w : Int} (h_w : -2147483648 ≤ w ∧ w ≤ 2147483647) (hB : mB (aup mi 58 0 0)) (hp : pM (aup mi 58 0 0)) : SPg yX7_patternStrokes cX7_patternStrokes 5 (some .int) 3 [.ref 58, iI w] mi mr (Pi mr (fun r m => m = (aup mi 58 0 0) ∧ r = if 0 ≤ w ∧ w < 5 then (if (aup mi 58 0 0) 73 w = 0 then -9 else ((outL (fun k => (aup mi 58 0 0) 72 (100 * w + k)) ((aup mi 58 0 0) 58 6).toNat 0 0 ((aup mi 58 0 0) 73 w).toNat 0).length : Int)) else -2)) := by
  refine SPg.int rfl (by decide +kernel) (Nat.le_of_ble_eq_true rfl) ?_
  show AWm RX7 cX7_patternStrokes 5 3 _ 0 [(0, .ref 58), (1, iI w)] [] mi mr
  refine aw_aload_n (i := 0) (q := 0) dX7_patternStrokes_0 rfl rfl ?_
  refine aw_iconst dX7_patternStrokes_1 ?_
  refine aw_putIk 0 flX7_1 SH_58 (by decide) rfl rfl rfl (by decide) dX7_patternStrokes_2 ?_
  exact t_patternStrokes (mi := aup mi 58 0 0) hR h_w hB hp
