-- part 23: scheduleStroke, cancelStroke, earliestStroke, play (printed by wip/whole/gen/p23.py)
/-- all but the schedule stays -/
def fr8 (mi m : aM) : Prop := ∀ (x : Nat) (j : Int), (x < 8 ∨ 12 < x) → m x j = mi x j
/-- all but the schedule's changes stays -/
def fr12 (mi m : aM) : Prop := ∀ (x : Nat) (j : Int), x ≠ 12 → m x j = mi x j
theorem fr12_8 {mi m : aM} (h : fr12 mi m) : fr8 mi m := fun x j hx => h x j (by omega)
theorem fr12_sL {mi m : aM} (h : fr12 mi m) : sL m 8 = sL mi 8 := sL_congr (fun j => ⟨h _ _ (by decide), h _ _ (by decide), h _ _ (by decide)⟩) (h _ _ (by decide))
theorem fr12_ok {mi m : aM} (h : fr12 mi m) (ho : sOk mi 8) : sOk m 8 := sOk_congr (fun j => ⟨h _ _ (by decide), h _ _ (by decide), h _ _ (by decide)⟩) (h _ _ (by decide)) ho
theorem fr12_eC {mi m : aM} (h : fr12 mi m) : eC m = eC mi := by
  funext L b t
  unfold eC
  rw [h 1 13 (by decide), h 1 14 (by decide), h _ 4 (by omega), h _ 6 (by omega), h _ 0 (by omega), h _ 1 (by omega)]
theorem fr12_tr {a b c : aM} (h : fr12 a b) (h2 : fr12 b c) : fr12 a c := fun x j hx => (h2 x j hx).trans (h x j hx)
/-- the first time from f to l with the answer 0; -1 -/
def frsT (E : Int → Int) (f l r : Int) : Prop := (f ≤ r ∧ r ≤ l ∧ E r = 0 ∧ ∀ t : Int, f ≤ t → t < r → E t ≠ 0) ∨ (r = -1 ∧ ∀ t : Int, f ≤ t → t ≤ l → E t ≠ 0)
theorem frsT_unique {E : Int → Int} {f l r q : Int} (hf : 0 ≤ f) (h : frsT E f l r) (h2 : frsT E f l q) : r = q := by
  rcases h with ⟨a1, a2, a3, a4⟩ | ⟨a1, a2⟩ <;> rcases h2 with ⟨b1, b2, b3, b4⟩ | ⟨b1, b2⟩
  · by_cases e : r < q
    · exact absurd a3 (b4 r a1 e)
    · by_cases e2 : q < r
      · exact absurd b3 (a4 q b1 e2)
      · omega
  · exact absurd a3 (b2 r a1 a2)
  · exact absurd b3 (a2 q b1 b2)
  · omega
theorem s_X6_scheduleStroke {mr : aR} (hR : Rok mr) {mi : aM} {b t : Int} (h_b : -2147483648 ≤ b ∧ b ≤ 2147483647) (h_t : -2147483648 ≤ t ∧ t ≤ 2147483647) (hc : cB mi) (hpl : 1 ≤ mi 1 14 ∧ mi 1 14 ≤ 12) (ho : sOk mi 8) : SPg yX6_scheduleStroke cX6_scheduleStroke 5 (some .int) 4 [.ref 1, iI b, iI t] mi mr (Pi mr (fun r m => r = (if 0 ≤ b ∧ b < mi 1 11 then (if 0 ≤ t ∧ t ≤ 100000 then (if eC mi (sL mi 8) b t = 0 then t - mi (28 + b.toNat) 0 else eC mi (sL mi 8) b t) else -3) else -2) ∧ (r < 0 → fr12 mi m) ∧ (0 ≤ r → (0 ≤ b ∧ b < mi 1 11) ∧ eC mi (sL mi 8) b t = 0 ∧ (sL m 8).Perm ((b, t - mi (28 + b.toNat) 0, t) :: sL mi 8) ∧ sOk m 8 ∧ fr8 mi m))) := by
  refine SPg.int rfl (by decide +kernel) (Nat.le_of_ble_eq_true rfl) ?_
  show AWm RX6 cX6_scheduleStroke 5 4 _ 0 [(0, .ref 1), (1, iI b), (2, iI t)] [] mi mr
  have hn := hc.1
  have hnw := hc.2.1
  refine aw_aload_n (i := 0) (q := 0) dX6_scheduleStroke_0 rfl rfl ?_
  refine aw_iload_n (i := 1) (q := 1) dX6_scheduleStroke_1 rfl rfl ?_
  refine aw_cVp (As := [iI b]) (st := []) clX6_103 (s_X6_isBell hR (by omega)) SH_1 rfl (by decide) rfl rfl (Nat.le_of_ble_eq_true rfl) (by decide) (by decide) (Nat.le_refl _) (Nat.le_refl _) dX6_scheduleStroke_2 (fun v2 hv2 => ?_)
  refine aw_if_ne (tgt := 11) dX6_scheduleStroke_5 (by decide) (by first | assumption | omega) (fun c5 => ?_) (fun c5 => ?_)
  · refine aw_iload_n (i := 2) (q := 2) dX6_scheduleStroke_11 rfl rfl ?_
    refine aw_iconst dX6_scheduleStroke_12 ?_
    refine aw_ldc (x := 100000) coX6_107 rfl dX6_scheduleStroke_13 ?_
    refine aw_cSp (As := [iI t, iI 0, iI 100000]) (st := []) clX6_87 (s_X6_outside hR (by omega) (by omega) (by omega)) rfl rfl (Nat.le_of_ble_eq_true rfl) (by decide) (by decide) (Nat.le_refl _) (Nat.le_refl _) dX6_scheduleStroke_15 (fun v15 hv15 => ?_)
    refine aw_if_eq (tgt := 24) dX6_scheduleStroke_18 (by decide) (by first | assumption | omega) (fun c18 => ?_) (fun c18 => ?_)
    · refine aw_aload_n (i := 0) (q := 0) dX6_scheduleStroke_24 rfl rfl ?_
      refine aw_aload_n (i := 0) (q := 0) dX6_scheduleStroke_25 rfl rfl ?_
      refine aw_getR (r := 8) flX6_30 SH_1 (by decide) rfl (rk_1_3 hR) dX6_scheduleStroke_26 ?_
      refine aw_iload_n (i := 1) (q := 1) dX6_scheduleStroke_29 rfl rfl ?_
      refine aw_iload_n (i := 2) (q := 2) dX6_scheduleStroke_30 rfl rfl ?_
      refine aw_cVi (As := [.ref 8, iI b, iI t]) (st := []) clX6_133 (s_X6_examine (mi := mi) hR (Or.inl rfl) ho (by omega) (hc.2.2 b.toNat (by omega)).1 (by omega) (by omega) (by omega)) SH_1 rfl (by decide) rfl rfl (Nat.le_of_ble_eq_true rfl) (by decide) (by decide) (Nat.le_refl _) (Nat.le_refl _) dX6_scheduleStroke_31 (fun v31 m1 hv31 => ?_)
      have hf1 : fr12 mi m1 := fun x j hx => hv31.2 x j (by omega)
      have hv9 : v31 = eC mi (sL mi 8) b t := hv31.1
      have hxr0 : -8 ≤ v31 ∧ v31 ≤ 0 := by rw [hv31.1]; exact exam_rng _ _ _ _ _ _ _ _ _
      refine aw_istore_n (i := 3) (lv' := [(0, .ref 1), (1, iI b), (2, iI t), (3, iI v31)]) [1, 2, 3, 0] dX6_scheduleStroke_34 rfl (by decide) rfl ?_
      refine aw_iload_n (i := 3) (q := 3) dX6_scheduleStroke_35 rfl rfl ?_
      refine aw_if_eq (tgt := 41) dX6_scheduleStroke_36 (by decide) (by first | assumption | omega) (fun c36 => ?_) (fun c36 => ?_)
      · have hz0 : v31 = 0 := by omega
        have he0 : eC mi (sL mi 8) b t = 0 := by rw [← hv9]; exact hz0
        have ht9 := eC_t he0
        have ho1 := fr12_ok hf1 ho
        have hsl := fr12_sL hf1
        have hk := (hc.2.2 b.toNat (by omega)).1
        have hk0 := hk.1
        have hd0 : m1 (28 + b.toNat) 0 = dC mi b := hf1 _ _ (by omega)
        have hd9 : dC mi b = mi (28 + b.toNat) 0 := rfl
        have hnw := hc.2.1
        refine aw_iload_n (i := 2) (q := 2) dX6_scheduleStroke_41 rfl rfl ?_
        refine aw_aload_n (i := 0) (q := 0) dX6_scheduleStroke_42 rfl rfl ?_
        refine aw_getR (r := 2) flX6_11 SH_1 (by decide) rfl (rk_1_0 hR) dX6_scheduleStroke_43 ?_
        refine aw_iload_n (i := 1) (q := 1) dX6_scheduleStroke_46 rfl rfl ?_
        refine aw_aald (r := 28 + (b).toNat) SH_2 (by decide) (by decide) ⟨by omega, by omega⟩ (hR.2.1 _ (by omega) (by omega)) dX6_scheduleStroke_47 ?_
        refine aw_getIk (x := m1 (28 + (b).toNat) 0) 0 flX6_91 (SH_bell ⟨by omega, by omega⟩) ⟨by omega, by omega⟩ rfl rfl rfl dX6_scheduleStroke_48 (fun r48 => ?_)
        refine aw_isub dX6_scheduleStroke_51 ?_
        refine aw_istore (i := 4) (lv' := [(0, .ref 1), (1, iI b), (2, iI t), (3, iI v31), (4, iI (t - (m1 (28 + (b).toNat) 0)))]) [1, 2, 3, 4, 0] dX6_scheduleStroke_52 (by decide) rfl ?_
        refine aw_aload_n (i := 0) (q := 0) dX6_scheduleStroke_54 rfl rfl ?_
        refine aw_getR (r := 8) flX6_30 SH_1 (by decide) rfl (rk_1_3 hR) dX6_scheduleStroke_55 ?_
        refine aw_iload_n (i := 1) (q := 1) dX6_scheduleStroke_58 rfl rfl ?_
        refine aw_iload (i := 4) (q := 4) dX6_scheduleStroke_59 rfl ?_
        refine aw_iload_n (i := 2) (q := 2) dX6_scheduleStroke_61 rfl rfl ?_
        refine aw_cVv (As := [iI b, iI (t - (m1 (28 + (b).toNat) 0)), iI t]) (st := []) clX6_137 (s_X4_insert (mi := m1) hR (Or.inl rfl) ho1 (by have h := sL_len ho1; rw [hsl] at h; have := ht9.2.2.2.1; omega) (by omega) (by omega) (by omega) (new_of ho1 (by rw [hsl, hd0]; exact ht9.2.2.2.2) (by omega) (he := hk.2.1.1))) SH_8 rfl (by decide) rfl rfl (Nat.le_of_ble_eq_true rfl) (by decide) (by decide) (Nat.le_refl _) (Nat.le_refl _) dX6_scheduleStroke_62 (fun m2 hm2 => ?_)
        refine aw_iload (i := 4) (q := 4) dX6_scheduleStroke_65 rfl ?_
        exact aw_iret ⟨_, rfl, rfl, rfl, (by rw [if_pos ⟨by omega, by omega⟩, if_pos ⟨by omega, by omega⟩, he0, if_pos rfl, hd0, hd9]), (fun h => by omega), (fun _ => ⟨⟨by omega, by omega⟩, he0, by have e := hm2.1; rw [hsl, hd0] at e; exact e, hm2.2.1, fun x j hx => by rw [hm2.2.2.2 x j (by omega) (by omega) (by omega) (by omega)]; exact fr12_8 hf1 x j hx⟩)⟩ (Nat.le_refl _) (Nat.le_refl _) dX6_scheduleStroke_67
      · refine aw_iload_n (i := 3) (q := 3) dX6_scheduleStroke_39 rfl rfl ?_
        have hxr : -8 ≤ v31 ∧ v31 ≤ 0 := by rw [hv31.1]; exact exam_rng _ _ _ _ _ _ _ _ _
        exact aw_iret ⟨_, rfl, rfl, rfl, (by rw [if_pos ⟨by omega, by omega⟩, if_pos ⟨by omega, by omega⟩, ← hv9, if_neg (by omega)]), (fun _ => hf1), (fun h => by omega)⟩ (Nat.le_refl _) (Nat.le_refl _) dX6_scheduleStroke_40
    · refine aw_bipush (x := -3) dX6_scheduleStroke_21 rfl ?_
      exact aw_iret ⟨_, rfl, rfl, rfl, (by (repeat' split) <;> omega), (fun _ _ _ _ => rfl), (fun h => by omega)⟩ (Nat.le_refl _) (Nat.le_refl _) dX6_scheduleStroke_23
  · refine aw_bipush (x := -2) dX6_scheduleStroke_8 rfl ?_
    exact aw_iret ⟨_, rfl, rfl, rfl, (by (repeat' split) <;> omega), (fun _ _ _ _ => rfl), (fun h => by omega)⟩ (Nat.le_refl _) (Nat.le_refl _) dX6_scheduleStroke_10
theorem s_X6_cancelStroke {mr : aR} (hR : Rok mr) {mi : aM} {b t : Int} (h_b : -2147483648 ≤ b ∧ b ≤ 2147483647) (h_t : -2147483648 ≤ t ∧ t ≤ 2147483647) (hn : 0 ≤ mi 1 11 ∧ mi 1 11 ≤ 12) (ho : sOk mi 8) : SPg yX6_cancelStroke cX6_cancelStroke 4 (some .int) 3 [.ref 1, iI b, iI t] mi mr (Pi mr (fun r m => (¬ (0 ≤ b ∧ b < mi 1 11) ∧ r = -2 ∧ m = mi) ∨ ((0 ≤ b ∧ b < mi 1 11) ∧ (∀ s ∈ sL mi 8, ¬ (s.1 = b ∧ s.2.2 = t)) ∧ r = -2 ∧ m = mi) ∨ ((0 ≤ b ∧ b < mi 1 11) ∧ ∃ s ∈ sL mi 8, s.1 = b ∧ s.2.2 = t ∧ ((s.2.1 ≤ mi 1 13 ∧ r = -5 ∧ m = mi) ∨ (mi 1 13 < s.2.1 ∧ r = ((sL mi 8).length : Int) - 1 ∧ (sL mi 8).Perm (s :: sL m 8) ∧ sOk m 8 ∧ fr8 mi m))))) := by
  refine SPg.int rfl (by decide +kernel) (Nat.le_of_ble_eq_true rfl) ?_
  show AWm RX6 cX6_cancelStroke 4 3 _ 0 [(0, .ref 1), (1, iI b), (2, iI t)] [] mi mr
  have hc1 := ho.1
  refine aw_aload_n (i := 0) (q := 0) dX6_cancelStroke_0 rfl rfl ?_
  refine aw_iload_n (i := 1) (q := 1) dX6_cancelStroke_1 rfl rfl ?_
  refine aw_cVp (As := [iI b]) (st := []) clX6_103 (s_X6_isBell hR (by omega)) SH_1 rfl (by decide) rfl rfl (Nat.le_of_ble_eq_true rfl) (by decide) (by decide) (Nat.le_refl _) (Nat.le_refl _) dX6_cancelStroke_2 (fun v2 hv2 => ?_)
  refine aw_if_ne (tgt := 11) dX6_cancelStroke_5 (by decide) (by first | assumption | omega) (fun c5 => ?_) (fun c5 => ?_)
  · refine aw_aload_n (i := 0) (q := 0) dX6_cancelStroke_11 rfl rfl ?_
    refine aw_getR (r := 8) flX6_30 SH_1 (by decide) rfl (rk_1_3 hR) dX6_cancelStroke_12 ?_
    refine aw_iload_n (i := 1) (q := 1) dX6_cancelStroke_15 rfl rfl ?_
    refine aw_iload_n (i := 2) (q := 2) dX6_cancelStroke_16 rfl rfl ?_
    refine aw_cVp (As := [iI b, iI t]) (st := []) clX6_141 (s_X4_indexOf hR (Or.inl rfl) ho (by omega) (by omega)) SH_8 rfl (by decide) rfl rfl (Nat.le_of_ble_eq_true rfl) (by decide) (by decide) (Nat.le_refl _) (Nat.le_refl _) dX6_cancelStroke_17 (fun k hk => ?_)
    refine aw_istore_n (i := 3) (lv' := [(0, .ref 1), (1, iI b), (2, iI t), (3, iI k)]) [1, 2, 3, 0] dX6_cancelStroke_20 rfl (by decide) rfl ?_
    refine aw_iload_n (i := 3) (q := 3) dX6_cancelStroke_21 rfl rfl ?_
    refine aw_if_ge (tgt := 28) dX6_cancelStroke_22 (by decide) (by first | assumption | omega) (fun c22 => ?_) (fun c22 => ?_)
    · have hk9 : mi 9 k = b ∧ mi 11 k = t := by rcases hk with hk | hk; (exact ⟨hk.2.2.1, hk.2.2.2⟩); (omega)
      have hkr : 0 ≤ k ∧ k < mi 8 4 := by omega
      refine aw_aload_n (i := 0) (q := 0) dX6_cancelStroke_28 rfl rfl ?_
      refine aw_getR (r := 8) flX6_30 SH_1 (by decide) rfl (rk_1_3 hR) dX6_cancelStroke_29 ?_
      refine aw_getR (r := 10) flX6_145 SH_8 (by decide) rfl (rk_8_1 hR) dX6_cancelStroke_32 ?_
      refine aw_iload_n (i := 3) (q := 3) dX6_cancelStroke_35 rfl rfl ?_
      refine aw_ialdv (x := mi 10 k) SH_10 (by decide) ⟨by omega, by omega⟩ rfl dX6_cancelStroke_36 (fun r36 => ?_)
      refine aw_aload_n (i := 0) (q := 0) dX6_cancelStroke_37 rfl rfl ?_
      refine aw_getIk (x := mi 1 13) 13 flX6_73 SH_1 (by decide) rfl rfl rfl dX6_cancelStroke_38 (fun r38 => ?_)
      refine aw_icmp_gt (tgt := 47) dX6_cancelStroke_41 (by decide) (by first | assumption | omega) (by first | assumption | omega) (fun c41 => ?_) (fun c41 => ?_)
      · refine aw_aload_n (i := 0) (q := 0) dX6_cancelStroke_47 rfl rfl ?_
        refine aw_getR (r := 8) flX6_30 SH_1 (by decide) rfl (rk_1_3 hR) dX6_cancelStroke_48 ?_
        refine aw_iload_n (i := 3) (q := 3) dX6_cancelStroke_51 rfl rfl ?_
        refine aw_cVv (As := [iI k]) (st := []) clX6_148 (s_X4_removeAt hR (Or.inl rfl) ho ⟨by omega, by omega⟩) SH_8 rfl (by decide) rfl rfl (Nat.le_of_ble_eq_true rfl) (by decide) (by decide) (Nat.le_refl _) (Nat.le_refl _) dX6_cancelStroke_52 (fun m1 hm1 => ?_)
        have hct : m1 8 4 = mi 8 4 - 1 := hm1.1
        refine aw_aload_n (i := 0) (q := 0) dX6_cancelStroke_55 rfl rfl ?_
        refine aw_getR (r := 8) flX6_30 SH_1 (by decide) rfl (rk_1_3 hR) dX6_cancelStroke_56 ?_
        refine aw_getIk (x := m1 8 4) 4 flX6_152 SH_8 (by decide) rfl rfl rfl dX6_cancelStroke_59 (fun r59 => ?_)
        exact aw_iret ⟨_, rfl, rfl, rfl, (Or.inr (Or.inr ⟨by omega, sF mi 8 k, (sL_mem ho).mpr ⟨k, by omega, by omega, rfl⟩, hk9.1, hk9.2, Or.inr ⟨by show mi 1 13 < mi 10 k; omega, by have := sL_len ho; omega, remP_perm hm1 ⟨by omega, by omega⟩, remP_ok hm1 ho ⟨by omega, by omega⟩, fun x j hx => hm1.2.2.2 x j (by omega) (by omega) (by omega) (by omega)⟩⟩))⟩ (Nat.le_refl _) (Nat.le_refl _) dX6_cancelStroke_62
      · refine aw_bipush (x := -5) dX6_cancelStroke_44 rfl ?_
        exact aw_iret ⟨_, rfl, rfl, rfl, (Or.inr (Or.inr ⟨by omega, sF mi 8 k, (sL_mem ho).mpr ⟨k, by omega, by omega, rfl⟩, hk9.1, hk9.2, Or.inl ⟨by show mi 10 k ≤ mi 1 13; omega, rfl, rfl⟩⟩))⟩ (Nat.le_refl _) (Nat.le_refl _) dX6_cancelStroke_46
    · refine aw_bipush (x := -2) dX6_cancelStroke_25 rfl ?_
      exact aw_iret ⟨_, rfl, rfl, rfl, (by first | exact Or.inl ⟨by omega, rfl, rfl⟩ | exact Or.inr (Or.inl ⟨by omega, fun s hs q => by obtain ⟨i, i0, i1, rfl⟩ := (sL_mem ho).mp hs; rcases hk with hk | hk; (omega); (exact hk.2 i i0 i1 q), rfl, rfl⟩))⟩ (Nat.le_refl _) (Nat.le_refl _) dX6_cancelStroke_27
  · refine aw_bipush (x := -2) dX6_cancelStroke_8 rfl ?_
    exact aw_iret ⟨_, rfl, rfl, rfl, (by first | exact Or.inl ⟨by omega, rfl, rfl⟩ | exact Or.inr (Or.inl ⟨by omega, fun s hs q => by obtain ⟨i, i0, i1, rfl⟩ := (sL_mem ho).mp hs; rcases hk with hk | hk; (omega); (exact hk.2 i i0 i1 q), rfl, rfl⟩))⟩ (Nat.le_refl _) (Nat.le_refl _) dX6_cancelStroke_10
theorem l_earl {mr : aR} (hR : Rok mr) {mi : aM} {b f : Int} (h_b : -2147483648 ≤ b ∧ b ≤ 2147483647) (h_f : -2147483648 ≤ f ∧ f ≤ 2147483647) (hc : cB mi) (hpl : 1 ≤ mi 1 14 ∧ mi 1 14 ≤ 12) (ho : sOk mi 8) {l : Int} (hb : 0 ≤ b ∧ b < mi 1 11) (hf : 0 ≤ f ∧ f ≤ 100000) (hsw : mi (28 + b.toNat) 6 = 0) (hcn : mi 8 4 < 300) (hl : l = (if f + 2000 ≤ 100000 then f + 2000 else 100000)) (hl2 : f ≤ l ∧ l ≤ 100000) : ∀ (n : Nat) (m : aM) (z : Int), fr12 mi m → (∀ t : Int, f ≤ t → t < z → eC mi (sL mi 8) b t ≠ 0) → (f ≤ z ∧ z ≤ l + 1) → l + 1 - z < n → AWm RX6 cX6_earliestStroke 5 4 (Pi mr (fun r m => fr12 mi m ∧ ((¬ (0 ≤ b ∧ b < mi 1 11) ∧ r = -2) ∨ ((0 ≤ b ∧ b < mi 1 11) ∧ ((¬ (0 ≤ f ∧ f ≤ 100000) ∧ r = -3) ∨ ((0 ≤ f ∧ f ≤ 100000) ∧ ((mi (28 + b.toNat) 6 ≠ 0 ∧ r = -6) ∨ (mi (28 + b.toNat) 6 = 0 ∧ ((300 ≤ mi 8 4 ∧ r = -4) ∨ (mi 8 4 < 300 ∧ frsT (fun t => eC mi (sL mi 8) b t) f (if f + 2000 ≤ 100000 then f + 2000 else 100000) r)))))))))) 66 [(0, .ref 1), (1, iI b), (2, iI f), (3, iI l), (4, iI z)] [] m mr := by
  intro n
  induction n with
  | zero => intro m z hfr h2 h3 h4; omega
  | succ n ih =>
    intro m z hfr h2 h3 h4
    have hnw := hc.2.1
    have hn := hc.1
    have hk9 : bOk m (28 + b.toNat) := by
      have e := (hc.2.2 b.toNat (by omega)).1
      have hm : ∀ j : Int, m (28 + b.toNat) j = mi (28 + b.toNat) j := fun j => hfr _ _ (by omega)
      unfold bOk at *
      simp only [hm]
      exact e
    refine aw_iload (i := 4) (q := 4) dX6_earliestStroke_66 rfl ?_
    refine aw_iload_n (i := 3) (q := 3) dX6_earliestStroke_68 rfl rfl ?_
    refine aw_icmp_gt (tgt := 95) dX6_earliestStroke_69 (by decide) (by first | assumption | omega) (by first | assumption | omega) (fun c69 => ?_) (fun c69 => ?_)
    · refine aw_iconst dX6_earliestStroke_95 ?_
      exact aw_iret ⟨_, rfl, rfl, rfl, hfr, Or.inr ⟨hb, Or.inr ⟨hf, Or.inr ⟨hsw, Or.inr ⟨hcn, hl ▸ (Or.inr ⟨rfl, fun t a1 a2 => h2 t a1 (by omega)⟩ : frsT (fun t => eC mi (sL mi 8) b t) f l (-1))⟩⟩⟩⟩⟩ (Nat.le_refl _) (Nat.le_refl _) dX6_earliestStroke_96
    · refine aw_aload_n (i := 0) (q := 0) dX6_earliestStroke_72 rfl rfl ?_
      refine aw_aload_n (i := 0) (q := 0) dX6_earliestStroke_73 rfl rfl ?_
      refine aw_getR (r := 8) flX6_30 SH_1 (by decide) rfl (rk_1_3 hR) dX6_earliestStroke_74 ?_
      refine aw_iload_n (i := 1) (q := 1) dX6_earliestStroke_77 rfl rfl ?_
      refine aw_iload (i := 4) (q := 4) dX6_earliestStroke_78 rfl ?_
      refine aw_cVi (As := [.ref 8, iI b, iI z]) (st := []) clX6_133 (s_X6_examine (mi := m) hR (Or.inl rfl) (fr12_ok hfr ho) (by omega) hk9 (by rw [hfr 1 13 (by decide)]; exact hc.2.1) (by rw [hfr 1 14 (by decide)]; exact hpl) (by omega)) SH_1 rfl (by decide) rfl rfl (Nat.le_of_ble_eq_true rfl) (by decide) (by decide) (Nat.le_refl _) (Nat.le_refl _) dX6_earliestStroke_80 (fun v80 m1 hv80 => ?_)
      have hf1 : fr12 mi m1 := fr12_tr hfr (fun x j hx => hv80.2 x j (by omega))
      have hv9 : v80 = eC mi (sL mi 8) b z := by rw [hv80.1, ← fr12_eC hfr, ← fr12_sL hfr]; rfl
      have hxr : -8 ≤ v80 ∧ v80 ≤ 0 := by rw [hv80.1]; exact exam_rng _ _ _ _ _ _ _ _ _
      refine aw_if_ne (tgt := 89) dX6_earliestStroke_83 (by decide) (by first | assumption | omega) (fun c83 => ?_) (fun c83 => ?_)
      · refine aw_iinc (i := 4) (q := 4) (x := z) (lv' := [(0, .ref 1), (1, iI b), (2, iI f), (3, iI l), (4, iI (z + 1))]) [1, 2, 3, 4, 0] dX6_earliestStroke_89 rfl (by decide) rfl ?_
        refine aw_goto (tgt := 66) dX6_earliestStroke_92 (by decide) ?_
        exact ih _ _ hf1 (fun t a1 a2 => by by_cases e : t = z; (subst e; rw [← hv9]; omega); (exact h2 t a1 (by omega))) (by omega) (by omega)
      · refine aw_iload (i := 4) (q := 4) dX6_earliestStroke_86 rfl ?_
        exact aw_iret ⟨_, rfl, rfl, rfl, hf1, Or.inr ⟨hb, Or.inr ⟨hf, Or.inr ⟨hsw, Or.inr ⟨hcn, hl ▸ (Or.inl ⟨by omega, by omega, by show eC mi (sL mi 8) b z = 0; rw [← hv9]; omega, h2⟩ : frsT (fun t => eC mi (sL mi 8) b t) f l z)⟩⟩⟩⟩⟩ (Nat.le_refl _) (Nat.le_refl _) dX6_earliestStroke_88
theorem s_X6_earliestStroke {mr : aR} (hR : Rok mr) {mi : aM} {b f : Int} (h_b : -2147483648 ≤ b ∧ b ≤ 2147483647) (h_f : -2147483648 ≤ f ∧ f ≤ 2147483647) (hc : cB mi) (hpl : 1 ≤ mi 1 14 ∧ mi 1 14 ≤ 12) (ho : sOk mi 8) : SPg yX6_earliestStroke cX6_earliestStroke 5 (some .int) 4 [.ref 1, iI b, iI f] mi mr (Pi mr (fun r m => fr12 mi m ∧ ((¬ (0 ≤ b ∧ b < mi 1 11) ∧ r = -2) ∨ ((0 ≤ b ∧ b < mi 1 11) ∧ ((¬ (0 ≤ f ∧ f ≤ 100000) ∧ r = -3) ∨ ((0 ≤ f ∧ f ≤ 100000) ∧ ((mi (28 + b.toNat) 6 ≠ 0 ∧ r = -6) ∨ (mi (28 + b.toNat) 6 = 0 ∧ ((300 ≤ mi 8 4 ∧ r = -4) ∨ (mi 8 4 < 300 ∧ frsT (fun t => eC mi (sL mi 8) b t) f (if f + 2000 ≤ 100000 then f + 2000 else 100000) r)))))))))) := by
  refine SPg.int rfl (by decide +kernel) (Nat.le_of_ble_eq_true rfl) ?_
  show AWm RX6 cX6_earliestStroke 5 4 _ 0 [(0, .ref 1), (1, iI b), (2, iI f)] [] mi mr
  have hn := hc.1
  have hc1 := ho.1
  refine aw_aload_n (i := 0) (q := 0) dX6_earliestStroke_0 rfl rfl ?_
  refine aw_iload_n (i := 1) (q := 1) dX6_earliestStroke_1 rfl rfl ?_
  refine aw_cVp (As := [iI b]) (st := []) clX6_103 (s_X6_isBell hR (by omega)) SH_1 rfl (by decide) rfl rfl (Nat.le_of_ble_eq_true rfl) (by decide) (by decide) (Nat.le_refl _) (Nat.le_refl _) dX6_earliestStroke_2 (fun v2 hv2 => ?_)
  refine aw_if_ne (tgt := 11) dX6_earliestStroke_5 (by decide) (by first | assumption | omega) (fun c5 => ?_) (fun c5 => ?_)
  · refine aw_iload_n (i := 2) (q := 2) dX6_earliestStroke_11 rfl rfl ?_
    refine aw_iconst dX6_earliestStroke_12 ?_
    refine aw_ldc (x := 100000) coX6_107 rfl dX6_earliestStroke_13 ?_
    refine aw_cSp (As := [iI f, iI 0, iI 100000]) (st := []) clX6_87 (s_X6_outside hR (by omega) (by omega) (by omega)) rfl rfl (Nat.le_of_ble_eq_true rfl) (by decide) (by decide) (Nat.le_refl _) (Nat.le_refl _) dX6_earliestStroke_15 (fun v15 hv15 => ?_)
    refine aw_if_eq (tgt := 24) dX6_earliestStroke_18 (by decide) (by first | assumption | omega) (fun c18 => ?_) (fun c18 => ?_)
    · refine aw_aload_n (i := 0) (q := 0) dX6_earliestStroke_24 rfl rfl ?_
      refine aw_getR (r := 2) flX6_11 SH_1 (by decide) rfl (rk_1_0 hR) dX6_earliestStroke_25 ?_
      refine aw_iload_n (i := 1) (q := 1) dX6_earliestStroke_28 rfl rfl ?_
      refine aw_aald (r := 28 + (b).toNat) SH_2 (by decide) (by decide) ⟨by omega, by omega⟩ (hR.2.1 _ (by omega) (by omega)) dX6_earliestStroke_29 ?_
      refine aw_getIk (x := mi (28 + (b).toNat) 6) 6 flX6_162 (SH_bell ⟨by omega, by omega⟩) ⟨by omega, by omega⟩ rfl rfl rfl dX6_earliestStroke_30 (fun r30 => ?_)
      refine aw_if_eq (tgt := 39) dX6_earliestStroke_33 (by decide) (by first | assumption | omega) (fun c33 => ?_) (fun c33 => ?_)
      · refine aw_aload_n (i := 0) (q := 0) dX6_earliestStroke_39 rfl rfl ?_
        refine aw_getR (r := 8) flX6_30 SH_1 (by decide) rfl (rk_1_3 hR) dX6_earliestStroke_40 ?_
        refine aw_cVp (As := []) (st := []) clX6_166 (s_X4_isFull hR (Or.inl rfl)) SH_8 rfl (by decide) rfl rfl (Nat.le_of_ble_eq_true rfl) (by decide) (by decide) (Nat.le_refl _) (Nat.le_refl _) dX6_earliestStroke_43 (fun v43 hv43 => ?_)
        refine aw_if_eq (tgt := 52) dX6_earliestStroke_46 (by decide) (by first | assumption | omega) (fun c46 => ?_) (fun c46 => ?_)
        · refine aw_iload_n (i := 2) (q := 2) dX6_earliestStroke_52 rfl rfl ?_
          refine aw_sipush (x := 2000) dX6_earliestStroke_53 rfl ?_
          refine aw_iadd dX6_earliestStroke_56 ?_
          refine aw_ldc (x := 100000) coX6_107 rfl dX6_earliestStroke_57 ?_
          refine aw_mmin (x := f + 2000) (st := []) (by omega) (by omega) clX6_170 (Nat.le_of_ble_eq_true rfl) (by decide) (Nat.le_refl _) (Nat.le_refl _) dX6_earliestStroke_59 (fun m59 hm59 => ?_)
          refine aw_istore_n (i := 3) (lv' := [(0, .ref 1), (1, iI b), (2, iI f), (3, iI m59)]) [1, 2, 3, 0] dX6_earliestStroke_62 rfl (by decide) rfl ?_
          refine aw_iload_n (i := 2) (q := 2) dX6_earliestStroke_63 rfl rfl ?_
          refine aw_istore (i := 4) (lv' := [(0, .ref 1), (1, iI b), (2, iI f), (3, iI m59), (4, iI f)]) [1, 2, 3, 4, 0] dX6_earliestStroke_64 (by decide) rfl ?_
          exact l_earl hR h_b h_f hc hpl ho (by omega) (by omega) (by omega) (by omega) (by split <;> omega) (by omega) (2002) mi f (fun _ _ _ => rfl) (fun t a1 a2 => by omega) (by omega) (by omega)
        · refine aw_bipush (x := -4) dX6_earliestStroke_49 rfl ?_
          exact aw_iret ⟨_, rfl, rfl, rfl, fun _ _ _ => rfl, Or.inr ⟨by omega, Or.inr ⟨by omega, Or.inr ⟨by omega, Or.inl ⟨by omega, rfl⟩⟩⟩⟩⟩ (Nat.le_refl _) (Nat.le_refl _) dX6_earliestStroke_51
      · refine aw_bipush (x := -6) dX6_earliestStroke_36 rfl ?_
        exact aw_iret ⟨_, rfl, rfl, rfl, fun _ _ _ => rfl, Or.inr ⟨by omega, Or.inr ⟨by omega, Or.inl ⟨by omega, rfl⟩⟩⟩⟩ (Nat.le_refl _) (Nat.le_refl _) dX6_earliestStroke_38
    · refine aw_bipush (x := -3) dX6_earliestStroke_21 rfl ?_
      exact aw_iret ⟨_, rfl, rfl, rfl, fun _ _ _ => rfl, Or.inr ⟨by omega, Or.inl ⟨by omega, rfl⟩⟩⟩ (Nat.le_refl _) (Nat.le_refl _) dX6_earliestStroke_23
  · refine aw_bipush (x := -2) dX6_earliestStroke_8 rfl ?_
    exact aw_iret ⟨_, rfl, rfl, rfl, fun _ _ _ => rfl, Or.inl ⟨by omega, rfl⟩⟩ (Nat.le_refl _) (Nat.le_refl _) dX6_earliestStroke_10
/-- all but schedule and draft stays -/
def fr817 (mi m : aM) : Prop := ∀ (x : Nat) (j : Int), (x < 8 ∨ 17 < x) → m x j = mi x j
theorem fr13_sL {mi m : aM} (h : fr13 mi m) : sL m 8 = sL mi 8 := sL_congr (fun j => ⟨h _ _ (by omega), h _ _ (by omega), h _ _ (by omega)⟩) (h _ _ (by omega))
theorem fr13_ok {mi m : aM} (h : fr13 mi m) (ho : sOk mi 8) : sOk m 8 := sOk_congr (fun j => ⟨h _ _ (by omega), h _ _ (by omega), h _ _ (by omega)⟩) (h _ _ (by omega)) ho
theorem plL_rng {mi : aM} : ∀ (q : List (Int × Int)) (L : List Str), -8 ≤ (plL (eC mi) (dC mi) q L).1 ∧ (plL (eC mi) (dC mi) q L).1 ≤ 0
  | [], _ => by show -8 ≤ (0 : Int) ∧ (0 : Int) ≤ 0; omega
  | q :: r, L => by
    by_cases h0 : eC mi L q.1 q.2 = 0
    · rw [plL_ok h0]; exact plL_rng r _
    · rw [plL_no h0]; exact exam_rng _ _ _ _ _ _ _ _ _
theorem s_X6_play {mr : aR} (hR : Rok mr) {mi : aM} {w T s : Int} (h_w : -2147483648 ≤ w ∧ w ≤ 2147483647) (h_T : -2147483648 ≤ T ∧ T ≤ 2147483647) (h_s : -2147483648 ≤ s ∧ s ≤ 2147483647) (hc : cB mi) (hpl : 1 ≤ mi 1 14 ∧ mi 1 14 ≤ 12) (ho : sOk mi 8) (hp : ∀ x : Int, 0 ≤ x → x < 5 → pOk mi (40 + 2 * x.toNat)) : SPg yX6_play cX6_play 5 (some .int) 5 [.ref 1, iI w, iI T, iI s] mi mr (Pi mr (fun r m => (¬ (0 ≤ w ∧ w < 5) ∧ r = -2 ∧ m = mi) ∨ ((0 ≤ w ∧ w < 5) ∧ ((mi (40 + 2 * w.toNat) 1 = 0 ∧ r = -9 ∧ m = mi) ∨ (mi (40 + 2 * w.toNat) 1 ≠ 0 ∧ ((¬ ((0 ≤ T ∧ T ≤ 100000) ∧ (1 ≤ s ∧ s ≤ 200)) ∧ r = -3 ∧ m = mi) ∨ (((0 ≤ T ∧ T ≤ 100000) ∧ (1 ≤ s ∧ s ≤ 200)) ∧ fr817 mi m ∧ sOk m 8 ∧ (((plL (eC mi) (dC mi) (outL (fun k => mi (40 + 2 * w.toNat + 1) k) (mi 1 11).toNat T s (mi (40 + 2 * w.toNat) 1).toNat 0) (sL mi 8)).1 ≠ 0 ∧ r = (plL (eC mi) (dC mi) (outL (fun k => mi (40 + 2 * w.toNat + 1) k) (mi 1 11).toNat T s (mi (40 + 2 * w.toNat) 1).toNat 0) (sL mi 8)).1 ∧ sL m 8 = sL mi 8) ∨ ((plL (eC mi) (dC mi) (outL (fun k => mi (40 + 2 * w.toNat + 1) k) (mi 1 11).toNat T s (mi (40 + 2 * w.toNat) 1).toNat 0) (sL mi 8)).1 = 0 ∧ r = ((outL (fun k => mi (40 + 2 * w.toNat + 1) k) (mi 1 11).toNat T s (mi (40 + 2 * w.toNat) 1).toNat 0).length : Int) ∧ ((plL (eC mi) (dC mi) (outL (fun k => mi (40 + 2 * w.toNat + 1) k) (mi 1 11).toNat T s (mi (40 + 2 * w.toNat) 1).toNat 0) (sL mi 8)).2).Perm (sL m 8)))))))))) := by
  refine SPg.int rfl (by decide +kernel) (Nat.le_of_ble_eq_true rfl) ?_
  show AWm RX6 cX6_play 5 5 _ 0 [(0, .ref 1), (1, iI w), (2, iI T), (3, iI s)] [] mi mr
  refine aw_iload_n (i := 1) (q := 1) dX6_play_0 rfl rfl ?_
  refine aw_cSp (As := [iI w]) (st := []) clX6_181 (s_X6_isPattern hR (by omega)) rfl rfl (Nat.le_of_ble_eq_true rfl) (by decide) (by decide) (Nat.le_refl _) (Nat.le_refl _) dX6_play_1 (fun v1 hv1 => ?_)
  refine aw_if_ne (tgt := 10) dX6_play_4 (by decide) (by first | assumption | omega) (fun c4 => ?_) (fun c4 => ?_)
  · refine aw_aload_n (i := 0) (q := 0) dX6_play_10 rfl rfl ?_
    refine aw_getR (r := 23) flX6_46 SH_1 (by decide) rfl (rk_1_6 hR) dX6_play_11 ?_
    refine aw_iload_n (i := 1) (q := 1) dX6_play_14 rfl rfl ?_
    refine aw_aald (r := 40 + 2 * (w).toNat) SH_23 (by decide) (by decide) ⟨by omega, by omega⟩ (hR.2.2 _ (by omega) (by omega)) dX6_play_15 ?_
    refine aw_cVp (As := []) (st := []) clX6_205 (s_X2_isMissing hR (SH_pat ⟨by omega, by omega⟩).1 ⟨by omega, by omega⟩) (SH_pat ⟨by omega, by omega⟩).1 rfl ⟨by omega, by omega⟩ rfl rfl (Nat.le_of_ble_eq_true rfl) (by decide) (by decide) (Nat.le_refl _) (Nat.le_refl _) dX6_play_16 (fun v16 hv16 => ?_)
    refine aw_if_eq (tgt := 25) dX6_play_19 (by decide) (by first | assumption | omega) (fun c19 => ?_) (fun c19 => ?_)
    · refine aw_iload_n (i := 2) (q := 2) dX6_play_25 rfl rfl ?_
      refine aw_iconst dX6_play_26 ?_
      refine aw_ldc (x := 100000) coX6_107 rfl dX6_play_27 ?_
      refine aw_cSp (As := [iI T, iI 0, iI 100000]) (st := []) clX6_87 (s_X6_outside hR (by omega) (by omega) (by omega)) rfl rfl (Nat.le_of_ble_eq_true rfl) (by decide) (by decide) (Nat.le_refl _) (Nat.le_refl _) dX6_play_29 (fun v29 hv29 => ?_)
      refine aw_if_ne (tgt := 46) dX6_play_32 (by decide) (by first | assumption | omega) (fun c32 => ?_) (fun c32 => ?_)
      · refine aw_bipush (x := -3) dX6_play_46 rfl ?_
        exact aw_iret ⟨_, rfl, rfl, rfl, Or.inr ⟨by omega, Or.inr ⟨by omega, Or.inl ⟨by omega, rfl, rfl⟩⟩⟩⟩ (Nat.le_refl _) (Nat.le_refl _) dX6_play_48
      · refine aw_iload_n (i := 3) (q := 3) dX6_play_35 rfl rfl ?_
        refine aw_iconst dX6_play_36 ?_
        refine aw_sipush (x := 200) dX6_play_37 rfl ?_
        refine aw_cSp (As := [iI s, iI 1, iI 200]) (st := []) clX6_87 (s_X6_outside hR (by omega) (by omega) (by omega)) rfl rfl (Nat.le_of_ble_eq_true rfl) (by decide) (by decide) (Nat.le_refl _) (Nat.le_refl _) dX6_play_40 (fun v40 hv40 => ?_)
        refine aw_if_eq (tgt := 49) dX6_play_43 (by decide) (by first | assumption | omega) (fun c43 => ?_) (fun c43 => ?_)
        · refine aw_aload_n (i := 0) (q := 0) dX6_play_49 rfl rfl ?_
          refine aw_aload_n (i := 0) (q := 0) dX6_play_50 rfl rfl ?_
          refine aw_getR (r := 23) flX6_46 SH_1 (by decide) rfl (rk_1_6 hR) dX6_play_51 ?_
          refine aw_iload_n (i := 1) (q := 1) dX6_play_54 rfl rfl ?_
          refine aw_aald (r := 40 + 2 * (w).toNat) SH_23 (by decide) (by decide) ⟨by omega, by omega⟩ (hR.2.2 _ (by omega) (by omega)) dX6_play_55 ?_
          refine aw_iload_n (i := 2) (q := 2) dX6_play_56 rfl rfl ?_
          refine aw_iload_n (i := 3) (q := 3) dX6_play_57 rfl rfl ?_
          refine aw_cVi (As := [.ref (40 + 2 * (w).toNat), iI T, iI s]) (st := []) clX6_214 (s_X6_draftPattern hR ⟨isP_of hR ⟨by omega, by omega⟩, hp w (by omega) (by omega), hc, hpl, by omega, by omega⟩ ho) SH_1 rfl (by decide) rfl rfl (Nat.le_of_ble_eq_true rfl) (by decide) (by decide) (Nat.le_refl _) (Nat.le_refl _) dX6_play_58 (fun v58 m1 hv58 => ?_)
          have hplr := plL_rng (mi := mi) (outL (fun k => mi (40 + 2 * w.toNat + 1) k) (mi 1 11).toNat T s (mi (40 + 2 * w.toNat) 1).toNat 0) (sL mi 8)
          have hv58r : -8 ≤ v58 ∧ v58 ≤ 1200 := by have h9 := outL_1200 (fun k => mi (40 + 2 * w.toNat + 1) k) T s (NB := (mi 1 11).toNat) (c := (mi (40 + 2 * w.toNat) 1).toNat) 0 (by have := hc.1; omega) (by have := (hp w (by omega) (by omega)).1; omega); rcases hv58.1 with q | q; (have := q.2; omega); (have := q.2.1; omega)
          refine aw_istore (i := 4) (lv' := [(0, .ref 1), (1, iI w), (2, iI T), (3, iI s), (4, iI v58)]) [1, 2, 3, 4, 0] dX6_play_61 (by decide) rfl ?_
          refine aw_iload (i := 4) (q := 4) dX6_play_63 rfl ?_
          refine aw_if_lt (tgt := 79) dX6_play_65 (by decide) (by first | assumption | omega) (fun c65 => ?_) (fun c65 => ?_)
          · refine aw_iload (i := 4) (q := 4) dX6_play_79 rfl ?_
            exact aw_iret ⟨_, rfl, rfl, rfl, Or.inr ⟨by omega, Or.inr ⟨by omega, Or.inr ⟨by omega, fun x j hx => hv58.2 x j (by omega), fr13_ok hv58.2 ho, Or.inl (by rcases hv58.1 with q | q; (exact ⟨q.1, q.2, fr13_sL hv58.2⟩); (have := q.2.1; omega))⟩⟩⟩⟩ (Nat.le_refl _) (Nat.le_refl _) dX6_play_81
          · have hsu : (plL (eC mi) (dC mi) (outL (fun k => mi (40 + 2 * w.toNat + 1) k) (mi 1 11).toNat T s (mi (40 + 2 * w.toNat) 1).toNat 0) (sL mi 8)).1 = 0 ∧ v58 = ((outL (fun k => mi (40 + 2 * w.toNat + 1) k) (mi 1 11).toNat T s (mi (40 + 2 * w.toNat) 1).toNat 0).length : Int) ∧ ((plL (eC mi) (dC mi) (outL (fun k => mi (40 + 2 * w.toNat + 1) k) (mi 1 11).toNat T s (mi (40 + 2 * w.toNat) 1).toNat 0) (sL mi 8)).2).Perm (sL m1 13) ∧ sOk m1 13 := by rcases hv58.1 with q | q; (have q1 := q.1; have q2 := q.2; omega); (exact q)
            have hod := hsu.2.2.2
            refine aw_aload_n (i := 0) (q := 0) dX6_play_68 rfl rfl ?_
            refine aw_getR (r := 8) flX6_30 SH_1 (by decide) rfl (rk_1_3 hR) dX6_play_69 ?_
            refine aw_aload_n (i := 0) (q := 0) dX6_play_72 rfl rfl ?_
            refine aw_getR (r := 13) flX6_34 SH_1 (by decide) rfl (rk_1_4 hR) dX6_play_73 ?_
            refine aw_cVv (As := [.ref 13]) (st := []) clX6_218 (s_X4_copyFrom (mi := m1) hR (Or.inl rfl) (Or.inr rfl) (by decide) hod) SH_8 rfl (by decide) rfl rfl (Nat.le_of_ble_eq_true rfl) (by decide) (by decide) (Nat.le_refl _) (Nat.le_refl _) dX6_play_76 (fun m2 hm2 => ?_)
            refine aw_iload (i := 4) (q := 4) dX6_play_79 rfl ?_
            exact aw_iret ⟨_, rfl, rfl, rfl, Or.inr ⟨by omega, Or.inr ⟨by omega, Or.inr ⟨by omega, fun x j hx => by rw [hm2.2.2.2 x j (by omega) (by omega) (by omega) (by omega)]; exact hv58.2 x j (by omega), hm2.2.1, Or.inr ⟨hsu.1, hsu.2.1, by rw [hm2.1]; exact hsu.2.2.1⟩⟩⟩⟩⟩ (Nat.le_refl _) (Nat.le_refl _) dX6_play_81
        · refine aw_bipush (x := -3) dX6_play_46 rfl ?_
          exact aw_iret ⟨_, rfl, rfl, rfl, Or.inr ⟨by omega, Or.inr ⟨by omega, Or.inl ⟨by omega, rfl, rfl⟩⟩⟩⟩ (Nat.le_refl _) (Nat.le_refl _) dX6_play_48
    · refine aw_bipush (x := -9) dX6_play_22 rfl ?_
      exact aw_iret ⟨_, rfl, rfl, rfl, Or.inr ⟨by omega, Or.inl ⟨by omega, rfl, rfl⟩⟩⟩ (Nat.le_refl _) (Nat.le_refl _) dX6_play_24
  · refine aw_bipush (x := -2) dX6_play_7 rfl ?_
    exact aw_iret ⟨_, rfl, rfl, rfl, Or.inl ⟨by omega, rfl, rfl⟩⟩ (Nat.le_refl _) (Nat.le_refl _) dX6_play_9
