-- part 41: the model: nextStroke, earliestStroke, movingHammers (printed by wip/whole/gen/p41.py)
theorem t_nextStroke {mr : aR} (hR : Rok mr) {mi : aM} {b : Int} (h_b : -2147483648 ≤ b ∧ b ≤ 2147483647) (hB : mB mi) (ho : mOk mi) (ht0 : ∀ i : Int, 0 ≤ i → i < mi 58 18 → 0 ≤ mi 68 i) : AWm RX7 cX7_nextStroke 2 3 (Pi mr (fun r m => m = mi ∧ ((¬ (0 ≤ b ∧ b < mi 58 6) ∧ r = -2) ∨ ((0 ≤ b ∧ b < mi 58 6) ∧ ((∃ k : Int, 0 ≤ k ∧ k < mi 58 18 ∧ mi 67 k = b ∧ r = mi 68 k ∧ ∀ i : Int, 0 ≤ i → i < mi 58 18 → mi 67 i = b → r ≤ mi 68 i) ∨ (r = -1 ∧ ∀ i : Int, 0 ≤ i → i < mi 58 18 → mi 67 i ≠ b)))))) 5 [(0, .ref 58), (1, iI b)] [] mi mr := by
  have hn := hB.1
  refine aw_aload_n (i := 0) (q := 0) dX7_nextStroke_5 rfl rfl ?_
  refine aw_iload_n (i := 1) (q := 1) dX7_nextStroke_6 rfl rfl ?_
  refine aw_cVp (As := [iI b]) (st := []) clX7_149 (s_X7_isBell hR (by omega) (by first | omega | (rw [aup_k (a := 58) (x := 58) (j := 6) (by decide)]; omega))) SH_58 rfl (by decide) rfl rfl (Nat.le_of_ble_eq_true rfl) (by decide) (by decide) (Nat.le_refl _) (Nat.le_refl _) dX7_nextStroke_7 (fun v7 hv7 => ?_)
  try rw [aup_k (a := 58) (x := 58) (j := 6) (by decide)] at hv7
  refine aw_if_eq (tgt := 21) dX7_nextStroke_10 (by decide) (by first | assumption | omega) (fun c10 => ?_) (fun c10 => ?_)
  · refine aw_bipush (x := -2) dX7_nextStroke_21 rfl ?_
    exact aw_iret ⟨_, rfl, rfl, rfl, rfl, Or.inl ⟨by omega, rfl⟩⟩ (Nat.le_refl _) (Nat.le_refl _) dX7_nextStroke_23
  · refine aw_aload_n (i := 0) (q := 0) dX7_nextStroke_13 rfl rfl ?_
    refine aw_iload_n (i := 1) (q := 1) dX7_nextStroke_14 rfl rfl ?_
    refine aw_cVp (As := [iI b]) (st := []) clX7_190 (s_X7_nextOf hR ho ht0 (by omega)) SH_58 rfl (by decide) rfl rfl (Nat.le_of_ble_eq_true rfl) (by decide) (by decide) (Nat.le_refl _) (Nat.le_refl _) dX7_nextStroke_15 (fun v15 hv15 => ?_)
    refine aw_goto (tgt := 23) dX7_nextStroke_18 (by decide) ?_
    exact aw_iret ⟨_, rfl, rfl, rfl, rfl, Or.inr ⟨by clear hv15; omega, hv15⟩⟩ (Nat.le_refl _) (Nat.le_refl _) dX7_nextStroke_23
theorem s_X7_nextStroke {mr : aR} (hR : Rok mr) {mi : aM} {b : Int} (h_b : -2147483648 ≤ b ∧ b ≤ 2147483647) (hB : mB (aup mi 58 0 0)) (ho : mOk (aup mi 58 0 0)) (ht0 : ∀ i : Int, 0 ≤ i → i < (aup mi 58 0 0) 58 18 → 0 ≤ (aup mi 58 0 0) 68 i) : SPg yX7_nextStroke cX7_nextStroke 2 (some .int) 3 [.ref 58, iI b] mi mr (Pi mr (fun r m => m = (aup mi 58 0 0) ∧ ((¬ (0 ≤ b ∧ b < (aup mi 58 0 0) 58 6) ∧ r = -2) ∨ ((0 ≤ b ∧ b < (aup mi 58 0 0) 58 6) ∧ ((∃ k : Int, 0 ≤ k ∧ k < (aup mi 58 0 0) 58 18 ∧ (aup mi 58 0 0) 67 k = b ∧ r = (aup mi 58 0 0) 68 k ∧ ∀ i : Int, 0 ≤ i → i < (aup mi 58 0 0) 58 18 → (aup mi 58 0 0) 67 i = b → r ≤ (aup mi 58 0 0) 68 i) ∨ (r = -1 ∧ ∀ i : Int, 0 ≤ i → i < (aup mi 58 0 0) 58 18 → (aup mi 58 0 0) 67 i ≠ b)))))) := by
  refine SPg.int rfl (by decide +kernel) (Nat.le_of_ble_eq_true rfl) ?_
  show AWm RX7 cX7_nextStroke 2 3 _ 0 [(0, .ref 58), (1, iI b)] [] mi mr
  refine aw_aload_n (i := 0) (q := 0) dX7_nextStroke_0 rfl rfl ?_
  refine aw_iconst dX7_nextStroke_1 ?_
  refine aw_putIk 0 flX7_1 SH_58 (by decide) rfl rfl rfl (by decide) dX7_nextStroke_2 ?_
  exact t_nextStroke (mi := aup mi 58 0 0) hR h_b hB ho ht0
theorem fr70_M {mi m : aM} (h : fr70 mi m) : frM mi m := fun x j a _ => h x j (by omega)
theorem fr70_L {mi m : aM} (h : fr70 mi m) : mL m = mL mi := mL_congr (fun j => ⟨h _ _ (by decide), h _ _ (by decide), h _ _ (by decide)⟩) (h _ _ (by decide))
theorem fr70_ok {mi m : aM} (h : fr70 mi m) (ho : mOk mi) : mOk m := mOk_congr (fun j => ⟨h _ _ (by decide), h _ _ (by decide), h _ _ (by decide)⟩) (h _ _ (by decide)) ho
theorem l_mearl {mr : aR} (hR : Rok mr) {mi : aM} {b f : Int} (hB : mB mi) (ho : mOk mi) (hpl : 1 ≤ mi 58 7 ∧ mi 58 7 ≤ 12) (hb : 0 ≤ b ∧ b < mi 58 6) (hf : 0 ≤ f ∧ f ≤ 100000) (hsw : mi 86 b = 0) (hcn : mi 58 18 < 300) : ∀ (n : Nat) (m : aM) (z : Int), fr70 mi m → (∀ t : Int, f ≤ t → t < z → eM mi (mL mi) b t ≠ 0) → (f ≤ z ∧ z ≤ 200000) → 200000 - z < n → AWm RX7 cX7_earliestStroke 4 3 (Pi mr (fun r m => fr70 mi m ∧ ((¬ (0 ≤ b ∧ b < mi 58 6) ∧ r = -2) ∨ ((0 ≤ b ∧ b < mi 58 6) ∧ ((¬ (0 ≤ f ∧ f ≤ 100000) ∧ r = -3) ∨ ((0 ≤ f ∧ f ≤ 100000) ∧ ((mi 86 b ≠ 0 ∧ r = -6) ∨ (mi 86 b = 0 ∧ ((300 ≤ mi 58 18 ∧ r = -4) ∨ (mi 58 18 < 300 ∧ frsT (fun t => eM mi (mL mi) b t) f (if f + 2000 ≤ 100000 then f + 2000 else 100000) r)))))))))) 58 [(0, .ref 58), (1, iI b), (2, iI f), (3, iI z)] [] m mr := by
  intro n
  induction n with
  | zero => intro m z hfr h2 h3 h4; omega
  | succ n ih =>
    intro m z hfr h2 h3 h4
    have hn := hB.1
    refine aw_iload_n (i := 3) (q := 3) dX7_earliestStroke_58 rfl rfl ?_
    refine aw_iload_n (i := 2) (q := 2) dX7_earliestStroke_59 rfl rfl ?_
    refine aw_sipush (x := 2000) dX7_earliestStroke_60 rfl ?_
    refine aw_iadd dX7_earliestStroke_63 ?_
    refine aw_icmp_gt (tgt := 91) dX7_earliestStroke_64 (by decide) (by first | assumption | omega) (by first | assumption | omega) (fun c64 => ?_) (fun c64 => ?_)
    · refine aw_iconst dX7_earliestStroke_91 ?_
      exact aw_iret ⟨_, rfl, rfl, rfl, hfr, Or.inr ⟨hb, Or.inr ⟨hf, Or.inr ⟨hsw, Or.inr ⟨hcn, (Or.inr ⟨rfl, fun t a1 a2 => h2 t a1 (by revert a2; split <;> omega)⟩ : frsT (fun t => eM mi (mL mi) b t) f (if f + 2000 ≤ 100000 then f + 2000 else 100000) (-1))⟩⟩⟩⟩⟩ (Nat.le_refl _) (Nat.le_refl _) dX7_earliestStroke_92
    · refine aw_iload_n (i := 3) (q := 3) dX7_earliestStroke_67 rfl rfl ?_
      refine aw_ldc (x := 100000) coX7_196 rfl dX7_earliestStroke_68 ?_
      refine aw_icmp_gt (tgt := 91) dX7_earliestStroke_70 (by decide) (by first | assumption | omega) (by decide) (fun c70 => ?_) (fun c70 => ?_)
      · refine aw_iconst dX7_earliestStroke_91 ?_
        exact aw_iret ⟨_, rfl, rfl, rfl, hfr, Or.inr ⟨hb, Or.inr ⟨hf, Or.inr ⟨hsw, Or.inr ⟨hcn, (Or.inr ⟨rfl, fun t a1 a2 => h2 t a1 (by revert a2; split <;> omega)⟩ : frsT (fun t => eM mi (mL mi) b t) f (if f + 2000 ≤ 100000 then f + 2000 else 100000) (-1))⟩⟩⟩⟩⟩ (Nat.le_refl _) (Nat.le_refl _) dX7_earliestStroke_92
      · refine aw_aload_n (i := 0) (q := 0) dX7_earliestStroke_73 rfl rfl ?_
        refine aw_iload_n (i := 1) (q := 1) dX7_earliestStroke_74 rfl rfl ?_
        refine aw_iload_n (i := 3) (q := 3) dX7_earliestStroke_75 rfl rfl ?_
        refine aw_i2l dX7_earliestStroke_76 (by first | assumption | omega) ?_
        refine aw_cVi (As := [iI b, lL z]) (st := []) clX7_174 (s_X7_refuses (mi := m) hR (mB_fr (fr70_M hfr) hB) (fr70_ok hfr ho) (by rw [hfr 58 7 (by decide)]; exact hpl) (by rw [hfr 58 6 (by decide)]; omega) (by omega)) SH_58 rfl (by decide) rfl rfl (Nat.le_of_ble_eq_true rfl) (by decide) (by decide) (Nat.le_refl _) (Nat.le_refl _) dX7_earliestStroke_77 (fun v77 m1 hv77 => ?_)
        have hx9 : v77 = eM mi (mL mi) b z := by rw [hv77.1, ← eM_fr (fr70_M hfr), ← fr70_L hfr]; rfl
        have hxr := eM_rng mi (mL mi) b z
        have hf1 : fr70 mi m1 := fun x j hx => (hv77.2 x j hx).trans (hfr x j hx)
        refine aw_if_ne (tgt := 85) dX7_earliestStroke_80 (by decide) (by first | assumption | omega) (fun c80 => ?_) (fun c80 => ?_)
        · refine aw_iinc (i := 3) (q := 3) (x := z) (lv' := [(0, .ref 58), (1, iI b), (2, iI f), (3, iI (z + 1))]) [1, 2, 3, 0] dX7_earliestStroke_85 rfl (by decide) rfl ?_
          refine aw_goto (tgt := 58) dX7_earliestStroke_88 (by decide) ?_
          exact ih _ (z + 1) hf1 (fun t a1 a2 => by by_cases e9 : t = z; (subst e9; omega); (exact h2 t a1 (by omega))) (by omega) (by omega)
        · refine aw_iload_n (i := 3) (q := 3) dX7_earliestStroke_83 rfl rfl ?_
          exact aw_iret ⟨_, rfl, rfl, rfl, hf1, Or.inr ⟨hb, Or.inr ⟨hf, Or.inr ⟨hsw, Or.inr ⟨hcn, (Or.inl ⟨by omega, by split <;> omega, by show eM mi (mL mi) b z = 0; omega, h2⟩ : frsT (fun t => eM mi (mL mi) b t) f (if f + 2000 ≤ 100000 then f + 2000 else 100000) z)⟩⟩⟩⟩⟩ (Nat.le_refl _) (Nat.le_refl _) dX7_earliestStroke_84
theorem t_earliestStroke {mr : aR} (hR : Rok mr) {mi : aM} {b f : Int} (h_b : -2147483648 ≤ b ∧ b ≤ 2147483647) (h_f : -2147483648 ≤ f ∧ f ≤ 2147483647) (hB : mB mi) (ho : mOk mi) (hpl : 1 ≤ mi 58 7 ∧ mi 58 7 ≤ 12) : AWm RX7 cX7_earliestStroke 4 3 (Pi mr (fun r m => fr70 mi m ∧ ((¬ (0 ≤ b ∧ b < mi 58 6) ∧ r = -2) ∨ ((0 ≤ b ∧ b < mi 58 6) ∧ ((¬ (0 ≤ f ∧ f ≤ 100000) ∧ r = -3) ∨ ((0 ≤ f ∧ f ≤ 100000) ∧ ((mi 86 b ≠ 0 ∧ r = -6) ∨ (mi 86 b = 0 ∧ ((300 ≤ mi 58 18 ∧ r = -4) ∨ (mi 58 18 < 300 ∧ frsT (fun t => eM mi (mL mi) b t) f (if f + 2000 ≤ 100000 then f + 2000 else 100000) r)))))))))) 5 [(0, .ref 58), (1, iI b), (2, iI f)] [] mi mr := by
  have hn := hB.1
  have hc1 := ho.1
  refine aw_aload_n (i := 0) (q := 0) dX7_earliestStroke_5 rfl rfl ?_
  refine aw_iload_n (i := 1) (q := 1) dX7_earliestStroke_6 rfl rfl ?_
  refine aw_cVp (As := [iI b]) (st := []) clX7_149 (s_X7_isBell hR (by omega) (by first | omega | (rw [aup_k (a := 58) (x := 58) (j := 6) (by decide)]; omega))) SH_58 rfl (by decide) rfl rfl (Nat.le_of_ble_eq_true rfl) (by decide) (by decide) (Nat.le_refl _) (Nat.le_refl _) dX7_earliestStroke_7 (fun v7 hv7 => ?_)
  try rw [aup_k (a := 58) (x := 58) (j := 6) (by decide)] at hv7
  refine aw_if_ne (tgt := 16) dX7_earliestStroke_10 (by decide) (by first | assumption | omega) (fun c10 => ?_) (fun c10 => ?_)
  · refine aw_iload_n (i := 2) (q := 2) dX7_earliestStroke_16 rfl rfl ?_
    refine aw_i2l dX7_earliestStroke_17 (by first | assumption | omega) ?_
    refine aw_lconst (x := 0) dX7_earliestStroke_18 rfl ?_
    refine aw_ldc2 (x := 100000) coX7_169 rfl dX7_earliestStroke_19 ?_
    refine aw_cSp (As := [lL f, lL 0, lL 100000]) (st := []) clX7_135 (s_X7_isIn hR (by omega) (by omega) (by omega)) rfl rfl (Nat.le_of_ble_eq_true rfl) (by decide) (by decide) (Nat.le_refl _) (Nat.le_refl _) dX7_earliestStroke_22 (fun v22 hv22 => ?_)
    refine aw_if_ne (tgt := 31) dX7_earliestStroke_25 (by decide) (by first | assumption | omega) (fun c25 => ?_) (fun c25 => ?_)
    · refine aw_aload_n (i := 0) (q := 0) dX7_earliestStroke_31 rfl rfl ?_
      refine aw_getR (r := 86) flX7_99 SH_58 (by decide) rfl (rk_58_44 hR) dX7_earliestStroke_32 ?_
      refine aw_iload_n (i := 1) (q := 1) dX7_earliestStroke_35 rfl rfl ?_
      refine aw_zaldv (x := mi 86 b) SH_86 (by decide) ⟨by omega, by omega⟩ rfl dX7_earliestStroke_36 (fun r36 => ?_)
      refine aw_if_eq (tgt := 43) dX7_earliestStroke_37 (by decide) (by first | assumption | omega) (fun c37 => ?_) (fun c37 => ?_)
      · refine aw_aload_n (i := 0) (q := 0) dX7_earliestStroke_43 rfl rfl ?_
        refine aw_getIk (x := mi 58 18) 18 flX7_171 SH_58 (by decide) rfl rfl rfl dX7_earliestStroke_44 (fun r44 => ?_)
        refine aw_sipush (x := 300) dX7_earliestStroke_47 rfl ?_
        refine aw_icmp_ne (tgt := 56) dX7_earliestStroke_50 (by decide) (by first | assumption | omega) (by decide) (fun c50 => ?_) (fun c50 => ?_)
        · refine aw_iload_n (i := 2) (q := 2) dX7_earliestStroke_56 rfl rfl ?_
          refine aw_istore_n (i := 3) (lv' := [(0, .ref 58), (1, iI b), (2, iI f), (3, iI f)]) [1, 2, 3, 0] dX7_earliestStroke_57 rfl (by decide) rfl ?_
          exact l_mearl hR hB ho hpl ⟨by omega, by omega⟩ ⟨by omega, by omega⟩ (by omega) (by omega) 300001 mi f (fun _ _ _ => rfl) (fun t a1 a2 => by omega) (by omega) (by omega)
        · refine aw_bipush (x := -4) dX7_earliestStroke_53 rfl ?_
          exact aw_iret ⟨_, rfl, rfl, rfl, (fun _ _ _ => rfl), Or.inr ⟨⟨by omega, by omega⟩, Or.inr ⟨⟨by omega, by omega⟩, Or.inr ⟨by omega, Or.inl ⟨by omega, rfl⟩⟩⟩⟩⟩ (Nat.le_refl _) (Nat.le_refl _) dX7_earliestStroke_55
      · refine aw_bipush (x := -6) dX7_earliestStroke_40 rfl ?_
        exact aw_iret ⟨_, rfl, rfl, rfl, (fun _ _ _ => rfl), Or.inr ⟨⟨by omega, by omega⟩, Or.inr ⟨⟨by omega, by omega⟩, Or.inl ⟨by omega, rfl⟩⟩⟩⟩ (Nat.le_refl _) (Nat.le_refl _) dX7_earliestStroke_42
    · refine aw_bipush (x := -3) dX7_earliestStroke_28 rfl ?_
      exact aw_iret ⟨_, rfl, rfl, rfl, (fun _ _ _ => rfl), Or.inr ⟨⟨by omega, by omega⟩, Or.inl ⟨by omega, rfl⟩⟩⟩ (Nat.le_refl _) (Nat.le_refl _) dX7_earliestStroke_30
  · refine aw_bipush (x := -2) dX7_earliestStroke_13 rfl ?_
    exact aw_iret ⟨_, rfl, rfl, rfl, (fun _ _ _ => rfl), Or.inl ⟨by omega, rfl⟩⟩ (Nat.le_refl _) (Nat.le_refl _) dX7_earliestStroke_15
theorem s_X7_earliestStroke {mr : aR} (hR : Rok mr) {mi : aM} {b f : Int} (h_b : -2147483648 ≤ b ∧ b ≤ 2147483647) (h_f : -2147483648 ≤ f ∧ f ≤ 2147483647) (hB : mB (aup mi 58 0 0)) (ho : mOk (aup mi 58 0 0)) (hpl : 1 ≤ (aup mi 58 0 0) 58 7 ∧ (aup mi 58 0 0) 58 7 ≤ 12) : SPg yX7_earliestStroke cX7_earliestStroke 4 (some .int) 3 [.ref 58, iI b, iI f] mi mr (Pi mr (fun r m => fr70 (aup mi 58 0 0) m ∧ ((¬ (0 ≤ b ∧ b < (aup mi 58 0 0) 58 6) ∧ r = -2) ∨ ((0 ≤ b ∧ b < (aup mi 58 0 0) 58 6) ∧ ((¬ (0 ≤ f ∧ f ≤ 100000) ∧ r = -3) ∨ ((0 ≤ f ∧ f ≤ 100000) ∧ (((aup mi 58 0 0) 86 b ≠ 0 ∧ r = -6) ∨ ((aup mi 58 0 0) 86 b = 0 ∧ ((300 ≤ (aup mi 58 0 0) 58 18 ∧ r = -4) ∨ ((aup mi 58 0 0) 58 18 < 300 ∧ frsT (fun t => eM (aup mi 58 0 0) (mL (aup mi 58 0 0)) b t) f (if f + 2000 ≤ 100000 then f + 2000 else 100000) r)))))))))) := by
  refine SPg.int rfl (by decide +kernel) (Nat.le_of_ble_eq_true rfl) ?_
  show AWm RX7 cX7_earliestStroke 4 3 _ 0 [(0, .ref 58), (1, iI b), (2, iI f)] [] mi mr
  refine aw_aload_n (i := 0) (q := 0) dX7_earliestStroke_0 rfl rfl ?_
  refine aw_iconst dX7_earliestStroke_1 ?_
  refine aw_putIk 0 flX7_1 SH_58 (by decide) rfl rfl rfl (by decide) dX7_earliestStroke_2 ?_
  exact t_earliestStroke (mi := aup mi 58 0 0) hR h_b h_f hB ho hpl
theorem l_mmh {mr : aR} (hR : Rok mr) {mi : aM} (ho : mOk mi) {t : Int} (ht : mi 58 9 ≤ t ∧ t ≤ 100000) (hnw : 0 ≤ mi 58 9) : ∀ (n : Nat) (g z : Int) (i : Nat), g = cov (lst (mS mi) i) t → z = (i : Int) → (0 ≤ z ∧ z ≤ mi 58 18) → mi 58 18 - z < n → AWm RX7 cX7_movingHammers 4 3 (Pi mr (fun r m => m = mi ∧ r = if mi 58 9 ≤ t ∧ t ≤ 100000 then cov (mL mi) t else -3)) 28 [(0, .ref 58), (1, iI t), (2, iI g), (3, iI z)] [] mi mr := by
  intro n
  induction n with
  | zero => intro g z i hg hz h2 h3; omega
  | succ n ih =>
    intro g z i hg hz h2 h3
    have hc1 := ho.1
    have hg0 := cov_nn (lst (mS mi) i) t
    have hg1 := cov_le (lst (mS mi) i) t
    rw [lst_len] at hg1
    refine aw_iload_n (i := 3) (q := 3) dX7_movingHammers_28 rfl rfl ?_
    refine aw_aload_n (i := 0) (q := 0) dX7_movingHammers_29 rfl rfl ?_
    refine aw_getIk (x := mi 58 18) 18 flX7_171 SH_58 (by decide) rfl rfl rfl dX7_movingHammers_30 (fun r30 => ?_)
    refine aw_icmp_ge (tgt := 74) dX7_movingHammers_33 (by decide) (by first | assumption | omega) (by first | assumption | omega) (fun c33 => ?_) (fun c33 => ?_)
    · refine aw_iload_n (i := 2) (q := 2) dX7_movingHammers_74 rfl rfl ?_
      exact aw_iret ⟨_, rfl, rfl, rfl, rfl, by rw [if_pos ht, hg, show i = (mi 58 18).toNat by omega]; rfl⟩ (Nat.le_refl _) (Nat.le_refl _) dX7_movingHammers_75
    · have hz9 := ho.2 z (by omega) (by omega)
      refine aw_iload_n (i := 2) (q := 2) dX7_movingHammers_36 rfl rfl ?_
      refine aw_iload_n (i := 1) (q := 1) dX7_movingHammers_37 rfl rfl ?_
      refine aw_i2l dX7_movingHammers_38 (by first | assumption | omega) ?_
      refine aw_aload_n (i := 0) (q := 0) dX7_movingHammers_39 rfl rfl ?_
      refine aw_getR (r := 69) flX7_45 SH_58 (by decide) rfl (rk_58_16 hR) dX7_movingHammers_40 ?_
      refine aw_iload_n (i := 3) (q := 3) dX7_movingHammers_43 rfl rfl ?_
      refine aw_ialdv (x := mi 69 z) SH_69 (by decide) ⟨by omega, by omega⟩ rfl dX7_movingHammers_44 (fun r44 => ?_)
      refine aw_i2l dX7_movingHammers_45 (by first | assumption | omega) ?_
      refine aw_aload_n (i := 0) (q := 0) dX7_movingHammers_46 rfl rfl ?_
      refine aw_getR (r := 68) flX7_42 SH_58 (by decide) rfl (rk_58_15 hR) dX7_movingHammers_47 ?_
      refine aw_iload_n (i := 3) (q := 3) dX7_movingHammers_50 rfl rfl ?_
      refine aw_ialdv (x := mi 68 z) SH_68 (by decide) ⟨by omega, by omega⟩ rfl dX7_movingHammers_51 (fun r51 => ?_)
      refine aw_iconst dX7_movingHammers_52 ?_
      refine aw_isub dX7_movingHammers_53 ?_
      refine aw_i2l dX7_movingHammers_54 (by first | assumption | omega) ?_
      refine aw_cSp (As := [lL t, lL (mi 69 z), lL ((mi 68 z) - 1)]) (st := [iI g]) clX7_135 (s_X7_isIn hR (by omega) (by omega) (by omega)) rfl rfl (Nat.le_of_ble_eq_true rfl) (by decide) (by decide) (Nat.le_refl _) (Nat.le_refl _) dX7_movingHammers_55 (fun v55 hv55 => ?_)
      refine aw_if_eq (tgt := 65) dX7_movingHammers_58 (by decide) (by first | assumption | omega) (fun c58 => ?_) (fun c58 => ?_)
      · refine aw_iconst dX7_movingHammers_65 ?_
        refine aw_iadd dX7_movingHammers_66 ?_
        refine aw_istore_n (i := 2) (lv' := [(0, .ref 58), (1, iI t), (2, iI (g + 0)), (3, iI z)]) [1, 2, 0, 3] dX7_movingHammers_67 rfl (by decide) rfl ?_
        refine aw_iinc (i := 3) (q := 3) (x := z) (lv' := [(0, .ref 58), (1, iI t), (2, iI (g + 0)), (3, iI (z + 1))]) [1, 2, 3, 0] dX7_movingHammers_68 rfl (by decide) rfl ?_
        refine aw_goto (tgt := 28) dX7_movingHammers_71 (by decide) ?_
        have hcs := cov_lst_succ (mS mi) i t
        have hcs2 : cov (lst (mS mi) (i + 1)) t = cov (lst (mS mi) i) t + (if mi 69 z ≤ t ∧ t < mi 68 z then 1 else 0) := by rw [hz]; exact hcs
        exact ih _ _ (i + 1) (by rw [hcs2]; first | (rw [if_pos (by omega)]; omega) | (rw [if_neg (by omega)]; omega)) (by omega) (by omega) (by omega)
      · refine aw_iconst dX7_movingHammers_61 ?_
        refine aw_goto (tgt := 66) dX7_movingHammers_62 (by decide) ?_
        refine aw_iadd dX7_movingHammers_66 ?_
        refine aw_istore_n (i := 2) (lv' := [(0, .ref 58), (1, iI t), (2, iI (g + 1)), (3, iI z)]) [1, 2, 0, 3] dX7_movingHammers_67 rfl (by decide) rfl ?_
        refine aw_iinc (i := 3) (q := 3) (x := z) (lv' := [(0, .ref 58), (1, iI t), (2, iI (g + 1)), (3, iI (z + 1))]) [1, 2, 3, 0] dX7_movingHammers_68 rfl (by decide) rfl ?_
        refine aw_goto (tgt := 28) dX7_movingHammers_71 (by decide) ?_
        have hcs := cov_lst_succ (mS mi) i t
        have hcs2 : cov (lst (mS mi) (i + 1)) t = cov (lst (mS mi) i) t + (if mi 69 z ≤ t ∧ t < mi 68 z then 1 else 0) := by rw [hz]; exact hcs
        exact ih _ _ (i + 1) (by rw [hcs2]; first | (rw [if_pos (by omega)]; omega) | (rw [if_neg (by omega)]; omega)) (by omega) (by omega) (by omega)
theorem t_movingHammers {mr : aR} (hR : Rok mr) {mi : aM} {t : Int} (h_t : -2147483648 ≤ t ∧ t ≤ 2147483647) (hB : mB mi) (ho : mOk mi) : AWm RX7 cX7_movingHammers 4 3 (Pi mr (fun r m => m = mi ∧ r = if mi 58 9 ≤ t ∧ t ≤ 100000 then cov (mL mi) t else -3)) 5 [(0, .ref 58), (1, iI t)] [] mi mr := by
  have hnw := hB.2.1
  have hc1 := ho.1
  refine aw_iload_n (i := 1) (q := 1) dX7_movingHammers_5 rfl rfl ?_
  refine aw_i2l dX7_movingHammers_6 (by first | assumption | omega) ?_
  refine aw_aload_n (i := 0) (q := 0) dX7_movingHammers_7 rfl rfl ?_
  refine aw_getIk (x := mi 58 9) 9 flX7_158 SH_58 (by decide) rfl rfl rfl dX7_movingHammers_8 (fun r8 => ?_)
  refine aw_i2l dX7_movingHammers_11 (by first | assumption | omega) ?_
  refine aw_ldc2 (x := 100000) coX7_169 rfl dX7_movingHammers_12 ?_
  refine aw_cSp (As := [lL t, lL (mi 58 9), lL 100000]) (st := []) clX7_135 (s_X7_isIn hR (by omega) (by omega) (by omega)) rfl rfl (Nat.le_of_ble_eq_true rfl) (by decide) (by decide) (Nat.le_refl _) (Nat.le_refl _) dX7_movingHammers_15 (fun v15 hv15 => ?_)
  refine aw_if_ne (tgt := 24) dX7_movingHammers_18 (by decide) (by first | assumption | omega) (fun c18 => ?_) (fun c18 => ?_)
  · refine aw_iconst dX7_movingHammers_24 ?_
    refine aw_istore_n (i := 2) (lv' := [(0, .ref 58), (1, iI t), (2, iI 0)]) [1, 2, 0] dX7_movingHammers_25 rfl (by decide) rfl ?_
    refine aw_iconst dX7_movingHammers_26 ?_
    refine aw_istore_n (i := 3) (lv' := [(0, .ref 58), (1, iI t), (2, iI 0), (3, iI 0)]) [1, 2, 3, 0] dX7_movingHammers_27 rfl (by decide) rfl ?_
    exact l_mmh hR ho ⟨by omega, by omega⟩ (by omega) ((mi 58 18).toNat + 1) 0 0 0 rfl rfl (by omega) (by omega)
  · refine aw_bipush (x := -3) dX7_movingHammers_21 rfl ?_
    exact aw_iret ⟨_, rfl, rfl, rfl, rfl, by rw [if_neg (by omega)]⟩ (Nat.le_refl _) (Nat.le_refl _) dX7_movingHammers_23
theorem s_X7_movingHammers {mr : aR} (hR : Rok mr) {mi : aM} {t : Int} (h_t : -2147483648 ≤ t ∧ t ≤ 2147483647) (hB : mB (aup mi 58 0 0)) (ho : mOk (aup mi 58 0 0)) : SPg yX7_movingHammers cX7_movingHammers 4 (some .int) 3 [.ref 58, iI t] mi mr (Pi mr (fun r m => m = (aup mi 58 0 0) ∧ r = if (aup mi 58 0 0) 58 9 ≤ t ∧ t ≤ 100000 then cov (mL (aup mi 58 0 0)) t else -3)) := by
  refine SPg.int rfl (by decide +kernel) (Nat.le_of_ble_eq_true rfl) ?_
  show AWm RX7 cX7_movingHammers 4 3 _ 0 [(0, .ref 58), (1, iI t)] [] mi mr
  refine aw_aload_n (i := 0) (q := 0) dX7_movingHammers_0 rfl rfl ?_
  refine aw_iconst dX7_movingHammers_1 ?_
  refine aw_putIk 0 flX7_1 SH_58 (by decide) rfl rfl rfl (by decide) dX7_movingHammers_2 ?_
  exact t_movingHammers (mi := aup mi 58 0 0) hR h_t hB ho
