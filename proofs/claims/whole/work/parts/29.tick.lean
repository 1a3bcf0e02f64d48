-- part 29: StrokeLog.add, soundHammers, turnBells (printed by wip/whole/gen/p29.py)
/-- the record with one stroke more -/
def lgA (m : aM) (b t c : Int) : aM := aup (aup (aup (aup (aup m 5 (m 4 4) b) 6 (m 4 4) t) 7 (m 4 4) c) 4 4 (if m 4 4 + 1 < 200 then m 4 4 + 1 else 0)) 4 3 (if m 4 3 < 200 then m 4 3 + 1 else 200)
def lgOk (m : aM) : Prop := (0 ≤ m 4 3 ∧ m 4 3 ≤ 200) ∧ (0 ≤ m 4 4 ∧ m 4 4 < 200)
theorem lgA_3 (m : aM) (b t c : Int) : lgA m b t c 4 3 = if m 4 3 < 200 then m 4 3 + 1 else 200 := by simp [lgA, aup]
theorem lgA_4 (m : aM) (b t c : Int) : lgA m b t c 4 4 = if m 4 4 + 1 < 200 then m 4 4 + 1 else 0 := by simp [lgA, aup]
theorem lgA_o {m : aM} {b t c : Int} {x : Nat} (h : x < 4 ∨ 7 < x) (j : Int) : lgA m b t c x j = m x j := by
  unfold lgA
  rw [aup_a (by omega), aup_a (by omega), aup_a (by omega), aup_a (by omega), aup_a (by omega)]
theorem lgA_ok {m : aM} {b t c : Int} (h : lgOk m) : lgOk (lgA m b t c) := by
  unfold lgOk at *
  rw [lgA_3, lgA_4]
  constructor <;> split <;> omega
theorem s_X5_add {mr : aR} (hR : Rok mr) {mi : aM} {b t c : Int} (h_b : -2147483648 ≤ b ∧ b ≤ 2147483647) (h_t : -2147483648 ≤ t ∧ t ≤ 2147483647) (h_c : -2147483648 ≤ c ∧ c ≤ 2147483647) (hl : lgOk mi) : SPg yX5_add cX5_add 4 none 2 [.ref 4, iI b, iI t, iI c] mi mr (Pv mr (fun m => m = lgA mi b t c)) := by
  refine SPg.void rfl (by decide +kernel) (Nat.le_of_ble_eq_true rfl) ?_
  show AWm RX5 cX5_add 4 2 _ 0 [(0, .ref 4), (1, iI b), (2, iI t), (3, iI c)] [] mi mr
  unfold lgOk at hl
  refine aw_aload_n (i := 0) (q := 0) dX5_add_0 rfl rfl ?_
  refine aw_getR (r := 5) flX5_9 SH_4 (by decide) rfl (rk_4_0 hR) dX5_add_1 ?_
  refine aw_aload_n (i := 0) (q := 0) dX5_add_4 rfl rfl ?_
  refine aw_getIk (x := mi 4 4) 4 flX5_25 SH_4 (by decide) rfl rfl rfl dX5_add_5 (fun r5 => ?_)
  refine aw_iload_n (i := 1) (q := 1) dX5_add_8 rfl rfl ?_
  refine aw_iast SH_5 (by decide) ⟨by omega, by omega⟩ (by first | assumption | omega) dX5_add_9 ?_
  refine aw_aload_n (i := 0) (q := 0) dX5_add_10 rfl rfl ?_
  refine aw_getR (r := 6) flX5_15 SH_4 (by decide) rfl (rk_4_1 hR) dX5_add_11 ?_
  refine aw_aload_n (i := 0) (q := 0) dX5_add_14 rfl rfl ?_
  refine aw_getIk (x := mi 4 4) 4 flX5_25 SH_4 (by decide) rfl rfl (by (rw [aup_a (by decide)]) <;> rfl) dX5_add_15 (fun r15 => ?_)
  refine aw_iload_n (i := 2) (q := 2) dX5_add_18 rfl rfl ?_
  refine aw_iast SH_6 (by decide) ⟨by omega, by omega⟩ (by first | assumption | omega) dX5_add_19 ?_
  refine aw_aload_n (i := 0) (q := 0) dX5_add_20 rfl rfl ?_
  refine aw_getR (r := 7) flX5_18 SH_4 (by decide) rfl (rk_4_2 hR) dX5_add_21 ?_
  refine aw_aload_n (i := 0) (q := 0) dX5_add_24 rfl rfl ?_
  refine aw_getIk (x := mi 4 4) 4 flX5_25 SH_4 (by decide) rfl rfl (by (rw [aup_a (by decide), aup_a (by decide)]) <;> rfl) dX5_add_25 (fun r25 => ?_)
  refine aw_iload_n (i := 3) (q := 3) dX5_add_28 rfl rfl ?_
  refine aw_iast SH_7 (by decide) ⟨by omega, by omega⟩ (by first | assumption | omega) dX5_add_29 ?_
  refine aw_aload_n (i := 0) (q := 0) dX5_add_30 rfl rfl ?_
  refine aw_aload_n (i := 0) (q := 0) dX5_add_31 rfl rfl ?_
  refine aw_getIk (x := mi 4 4) 4 flX5_25 SH_4 (by decide) rfl rfl (by (rw [aup_a (by decide), aup_a (by decide), aup_a (by decide)]) <;> rfl) dX5_add_32 (fun r32 => ?_)
  refine aw_iconst dX5_add_35 ?_
  refine aw_iadd dX5_add_36 ?_
  refine aw_sipush (x := 200) dX5_add_37 rfl ?_
  refine aw_icmp_ge (tgt := 52) dX5_add_40 (by decide) (by first | assumption | omega) (by decide) (fun c40 => ?_) (fun c40 => ?_)
  · refine aw_iconst dX5_add_52 ?_
    refine aw_putIk 4 flX5_25 SH_4 (by decide) rfl rfl rfl (by decide) dX5_add_53 ?_
    refine aw_aload_n (i := 0) (q := 0) dX5_add_56 rfl rfl ?_
    refine aw_aload_n (i := 0) (q := 0) dX5_add_57 rfl rfl ?_
    refine aw_getIk (x := mi 4 3) 3 flX5_21 SH_4 (by decide) rfl rfl (by (rw [aup_k (by decide), aup_a (by decide), aup_a (by decide), aup_a (by decide)]) <;> rfl) dX5_add_58 (fun r58 => ?_)
    refine aw_iconst dX5_add_61 ?_
    refine aw_iadd dX5_add_62 ?_
    refine aw_sipush (x := 200) dX5_add_63 rfl ?_
    refine aw_mmin (x := (mi 4 3) + 1) (st := [.ref 4]) (by omega) (by omega) clX5_28 (Nat.le_of_ble_eq_true rfl) (by decide) (Nat.le_refl _) (Nat.le_refl _) dX5_add_66 (fun m66 hm66 => ?_)
    refine aw_putIk 3 flX5_21 SH_4 (by decide) rfl rfl rfl (by first | assumption | omega) dX5_add_69 ?_
    exact aw_vret ⟨rfl, rfl, rfl, (by unfold lgA; have e9 : m66 = if mi 4 3 < 200 then mi 4 3 + 1 else 200 := (by split <;> omega); rw [e9]; first | rw [if_pos (show mi 4 4 + 1 < 200 by omega)] | rw [if_neg (show ¬ mi 4 4 + 1 < 200 by omega)])⟩ (Nat.le_refl _) (Nat.le_refl _) dX5_add_72
  · refine aw_aload_n (i := 0) (q := 0) dX5_add_43 rfl rfl ?_
    refine aw_getIk (x := mi 4 4) 4 flX5_25 SH_4 (by decide) rfl rfl (by (rw [aup_a (by decide), aup_a (by decide), aup_a (by decide)]) <;> rfl) dX5_add_44 (fun r44 => ?_)
    refine aw_iconst dX5_add_47 ?_
    refine aw_iadd dX5_add_48 ?_
    refine aw_goto (tgt := 53) dX5_add_49 (by decide) ?_
    refine aw_putIk 4 flX5_25 SH_4 (by decide) rfl rfl rfl (by first | assumption | omega) dX5_add_53 ?_
    refine aw_aload_n (i := 0) (q := 0) dX5_add_56 rfl rfl ?_
    refine aw_aload_n (i := 0) (q := 0) dX5_add_57 rfl rfl ?_
    refine aw_getIk (x := mi 4 3) 3 flX5_21 SH_4 (by decide) rfl rfl (by (rw [aup_k (by decide), aup_a (by decide), aup_a (by decide), aup_a (by decide)]) <;> rfl) dX5_add_58 (fun r58 => ?_)
    refine aw_iconst dX5_add_61 ?_
    refine aw_iadd dX5_add_62 ?_
    refine aw_sipush (x := 200) dX5_add_63 rfl ?_
    refine aw_mmin (x := (mi 4 3) + 1) (st := [.ref 4]) (by omega) (by omega) clX5_28 (Nat.le_of_ble_eq_true rfl) (by decide) (Nat.le_refl _) (Nat.le_refl _) dX5_add_66 (fun m66 hm66 => ?_)
    refine aw_putIk 3 flX5_21 SH_4 (by decide) rfl rfl rfl (by first | assumption | omega) dX5_add_69 ?_
    exact aw_vret ⟨rfl, rfl, rfl, (by unfold lgA; have e9 : m66 = if mi 4 3 < 200 then mi 4 3 + 1 else 200 := (by split <;> omega); rw [e9]; first | rw [if_pos (show mi 4 4 + 1 < 200 by omega)] | rw [if_neg (show ¬ mi 4 4 + 1 < 200 by omega)])⟩ (Nat.le_refl _) (Nat.le_refl _) dX5_add_72
/-- one bell sounds by its hammer -/
def sdA (m : aM) (b : Nat) : aM := lgA (aup m (28 + b) 4 (m 1 13 + m (28 + b) 1)) b (m 1 13) 0
def sdF (x : Nat) : Nat → Nat → aM → aM
  | 0, _, m => m
  | c + 1, b, m => sdF x c (b + 1) (if x.testBit b = true then sdA m b else m)
theorem sdF_yes {x c b : Nat} {m : aM} (h : x.testBit b = true) : sdF x (c + 1) b m = sdF x c (b + 1) (sdA m b) := by
  show sdF x c (b + 1) (if _ then _ else _) = _
  rw [if_pos h]
theorem sdF_no {x c b : Nat} {m : aM} (h : ¬ x.testBit b = true) : sdF x (c + 1) b m = sdF x c (b + 1) m := by
  show sdF x c (b + 1) (if _ then _ else _) = _
  rw [if_neg h]
theorem cnB_yes {x c b : Nat} (h : x.testBit b = true) : cnB x (c + 1) b = 1 + cnB x c (b + 1) := by
  show (if _ then _ else _) + _ = _
  rw [if_pos h]
theorem cnB_no {x c b : Nat} (h : ¬ x.testBit b = true) : cnB x (c + 1) b = cnB x c (b + 1) := by
  show (if _ then _ else _) + _ = _
  rw [if_neg h, Nat.zero_add]
theorem sdF_0 : ∀ (c b : Nat) (m : aM), sdF 0 c b m = m
  | 0, _, _ => rfl
  | c + 1, b, m => by
    unfold sdF
    rw [if_neg (by simp), sdF_0 c (b + 1) m]
theorem cnB_0 : ∀ (c b : Nat), cnB 0 c b = 0
  | 0, _ => rfl
  | c + 1, b => by
    unfold cnB
    rw [if_neg (by simp), cnB_0 c (b + 1)]
theorem sdA_o {m : aM} {b x : Nat} (h : x < 4 ∨ (7 < x ∧ (x ≠ 28 + b))) (j : Int) : sdA m b x j = m x j := by
  unfold sdA
  rw [lgA_o (by omega), aup_a (by omega)]
theorem sdA_b {m : aM} {b a : Nat} {j : Int} (h : 28 ≤ a) (hj : j ≠ 4) : sdA m b a j = m a j := by
  unfold sdA
  rw [lgA_o (by omega), aup_k hj]
theorem sdA_lg {m : aM} {b : Nat} (h : lgOk m) : lgOk (sdA m b) := by
  apply lgA_ok
  unfold lgOk at *
  rw [aup_a (by omega), aup_a (by omega)]
  exact h
/-- what the tick asks of the bells -/
def tkB (m : aM) : Prop := (0 ≤ m 1 11 ∧ m 1 11 ≤ 12) ∧ (0 ≤ m 1 13 ∧ m 1 13 ≤ 100000) ∧ lgOk m ∧ ∀ i : Nat, i < 12 → bOk m (28 + i)
theorem tkB_sd {m : aM} {b : Nat} (h : tkB m) (hb : b < 12) : tkB (sdA m b) := by
  obtain ⟨h1, h2, h3, h4⟩ := h
  refine ⟨by rw [sdA_o (by omega)]; exact h1, by rw [sdA_o (by omega)]; exact h2, sdA_lg h3, fun i hi => ?_⟩
  have k := h4 i hi
  unfold bOk at *
  have e : ∀ j : Int, j ≠ 4 → sdA m b (28 + i) j = m (28 + i) j := fun j hj => sdA_b (by omega) hj
  have e4 : 0 ≤ sdA m b (28 + i) 4 ∧ sdA m b (28 + i) 4 ≤ 100100 := by
    by_cases q : i = b
    · subst q
      have e5 : sdA m i (28 + i) 4 = m 1 13 + m (28 + i) 1 := by unfold sdA; rw [lgA_o (by omega), aup_eq]
      rw [e5]
      omega
    · rw [sdA_o (by omega)]
      exact k.2.2.2.2.1
  simp only [e 0 (by decide), e 1 (by decide), e 2 (by decide), e 3 (by decide), e 5 (by decide), e 6 (by decide), e 7 (by decide), e 8 (by decide), e 9 (by decide), e 10 (by decide), e 11 (by decide)]
  exact ⟨k.1, k.2.1, k.2.2.1, k.2.2.2.1, e4, k.2.2.2.2.2⟩
theorem cnB_le (x : Nat) : ∀ c b : Nat, cnB x c b ≤ c
  | 0, _ => Nat.le_refl _
  | c + 1, b => by
    have := cnB_le x c (b + 1)
    unfold cnB
    split <;> omega
theorem l_sound {mr : aR} (hR : Rok mr) {mi m1 : aM} {r0 : Int} (hts : ∃ rem : List Str, (sL mi 8).Perm (rem ++ sL m1 8) ∧ (∀ s ∈ rem, s.2.2 = mi 1 13) ∧ (∀ s ∈ sL m1 8, s.2.2 ≠ mi 1 13) ∧ (0 ≤ r0 ∧ r0 < 4096) ∧ (∀ b : Int, 0 ≤ b → b < 12 → (bit r0 b ↔ ∃ s ∈ rem, s.1 = b)) ∧ sOk m1 8 ∧ ∀ (x : Nat) (j : Int), (x ≠ 8 ∨ j ≠ 4) → x ≠ 9 → x ≠ 10 → x ≠ 11 → m1 x j = mi x j) : ∀ (n : Nat) (m : aM) (g y : Int) (j : Nat), tkB m → sdF r0.toNat ((mi 1 11).toNat - j) j m = sdF r0.toNat (mi 1 11).toNat 0 m1 → m 1 11 = mi 1 11 → m 1 13 = mi 1 13 → y = (j : Int) → g + (cnB r0.toNat ((mi 1 11).toNat - j) j : Int) = (cnB r0.toNat (mi 1 11).toNat 0 : Int) → (0 ≤ y ∧ y ≤ mi 1 11) → mi 1 11 - y < n → AWm RX6 cX6_soundHammers 4 4 (Pi mr (fun r m => ∃ (r0 : Int) (m1 : aM), (∃ rem : List Str, (sL mi 8).Perm (rem ++ sL m1 8) ∧ (∀ s ∈ rem, s.2.2 = mi 1 13) ∧ (∀ s ∈ sL m1 8, s.2.2 ≠ mi 1 13) ∧ (0 ≤ r0 ∧ r0 < 4096) ∧ (∀ b : Int, 0 ≤ b → b < 12 → (bit r0 b ↔ ∃ s ∈ rem, s.1 = b)) ∧ sOk m1 8 ∧ ∀ (x : Nat) (j : Int), (x ≠ 8 ∨ j ≠ 4) → x ≠ 9 → x ≠ 10 → x ≠ 11 → m1 x j = mi x j) ∧ m = sdF r0.toNat (mi 1 11).toNat 0 m1 ∧ r = (cnB r0.toNat (mi 1 11).toNat 0 : Int))) 16 [(0, .ref 1), (1, iI r0), (2, iI g), (3, iI y)] [] m mr := by
  intro n
  induction n with
  | zero => intro m g y j hT hend f11 f13 hyj hcnt h2 h3; omega
  | succ n ih =>
    intro m g y j hT hend f11 f13 hyj hcnt h2 h3
    have hn := hT.1
    have hnw := hT.2.1
    obtain ⟨rem, t1, t2, t3, t4, t5, t6, t7⟩ := hts
    have hcl := cnB_le r0.toNat (mi 1 11).toNat 0
    have hcl2 := cnB_le r0.toNat ((mi 1 11).toNat - j) j
    refine aw_iload_n (i := 3) (q := 3) dX6_soundHammers_16 rfl rfl ?_
    refine aw_aload_n (i := 0) (q := 0) dX6_soundHammers_17 rfl rfl ?_
    refine aw_getIk (x := m 1 11) 11 flX6_66 SH_1 (by decide) rfl rfl rfl dX6_soundHammers_18 (fun r18 => ?_)
    refine aw_icmp_ge (tgt := 81) dX6_soundHammers_21 (by decide) (by first | assumption | omega) (by first | assumption | omega) (fun c21 => ?_) (fun c21 => ?_)
    · refine aw_iload_n (i := 2) (q := 2) dX6_soundHammers_81 rfl rfl ?_
      exact aw_iret ⟨_, rfl, rfl, rfl, r0, m1, ⟨rem, t1, t2, t3, t4, t5, t6, t7⟩, by rw [← hend]; first | (rw [show (mi 1 11).toNat - j = 0 by omega]; rfl) | (rw [show r0.toNat = 0 by omega, sdF_0]), by first | (rw [show (mi 1 11).toNat - j = 0 by omega] at hcnt; have e0 : cnB r0.toNat 0 j = 0 := rfl; omega) | (rw [show r0.toNat = 0 by omega, cnB_0] at hcnt; rw [show r0.toNat = 0 by omega]; omega)⟩ (Nat.le_refl _) (Nat.le_refl _) dX6_soundHammers_82
    · refine aw_iload_n (i := 1) (q := 1) dX6_soundHammers_24 rfl rfl ?_
      refine aw_if_eq (tgt := 81) dX6_soundHammers_25 (by decide) (by first | assumption | omega) (fun c25 => ?_) (fun c25 => ?_)
      · refine aw_iload_n (i := 2) (q := 2) dX6_soundHammers_81 rfl rfl ?_
        exact aw_iret ⟨_, rfl, rfl, rfl, r0, m1, ⟨rem, t1, t2, t3, t4, t5, t6, t7⟩, by rw [← hend]; first | (rw [show (mi 1 11).toNat - j = 0 by omega]; rfl) | (rw [show r0.toNat = 0 by omega, sdF_0]), by first | (rw [show (mi 1 11).toNat - j = 0 by omega] at hcnt; have e0 : cnB r0.toNat 0 j = 0 := rfl; omega) | (rw [show r0.toNat = 0 by omega, cnB_0] at hcnt; rw [show r0.toNat = 0 by omega]; omega)⟩ (Nat.le_refl _) (Nat.le_refl _) dX6_soundHammers_82
      · refine aw_iload_n (i := 1) (q := 1) dX6_soundHammers_28 rfl rfl ?_
        refine aw_iload_n (i := 3) (q := 3) dX6_soundHammers_29 rfl rfl ?_
        refine aw_ishr (z := (((r0).toNat / 2 ^ (y).toNat : Nat) : Int)) dX6_soundHammers_30 (bt_shr (by omega) (by omega)) ?_
        refine aw_iconst dX6_soundHammers_31 ?_
        obtain ⟨bw32, hbw32, hbt32⟩ := bit_w r0 y
        refine aw_iand (z := bw32) dX6_soundHammers_32 (by rw [hbw32]; exact bt_and (shr_rng (by omega)) (by decide)) ?_
        refine aw_if_eq (tgt := 75) dX6_soundHammers_33 (by decide) (by first | assumption | omega) (fun c33 => ?_) (fun c33 => ?_)
        · have hjy : y.toNat = j := by omega
          refine aw_iinc (i := 3) (q := 3) (x := y) (lv' := [(0, .ref 1), (1, iI r0), (2, iI g), (3, iI (y + 1))]) [1, 2, 3, 0] dX6_soundHammers_75 rfl (by decide) rfl ?_
          refine aw_goto (tgt := 16) dX6_soundHammers_78 (by decide) ?_
          rw [show (mi 1 11).toNat - j = ((mi 1 11).toNat - (j + 1)) + 1 by omega] at hend
          rw [show (mi 1 11).toNat - j = ((mi 1 11).toNat - (j + 1)) + 1 by omega] at hcnt
          have hno : ¬ r0.toNat.testBit j = true := by rw [← hjy]; rcases hbt32 with ⟨-, q⟩ | ⟨q, -⟩; (omega); (exact q)
          rw [sdF_no hno] at hend
          rw [cnB_no hno] at hcnt
          exact ih _ g (y + 1) (j + 1) hT hend f11 f13 (by omega) (by omega) (by omega) (by omega)
        · have hjy : y.toNat = j := by omega
          have hb9 := hT.2.2.2 y.toNat (by omega)
          have hb1 := hb9.2.1
          refine aw_aload_n (i := 0) (q := 0) dX6_soundHammers_36 rfl rfl ?_
          refine aw_getR (r := 2) flX6_11 SH_1 (by decide) rfl (rk_1_0 hR) dX6_soundHammers_37 ?_
          refine aw_iload_n (i := 3) (q := 3) dX6_soundHammers_40 rfl rfl ?_
          refine aw_aald (r := 28 + (y).toNat) SH_2 (by decide) (by decide) ⟨by omega, by omega⟩ (hR.2.1 _ (by omega) (by omega)) dX6_soundHammers_41 ?_
          refine aw_aload_n (i := 0) (q := 0) dX6_soundHammers_42 rfl rfl ?_
          refine aw_getIk (x := m 1 13) 13 flX6_73 SH_1 (by decide) rfl rfl rfl dX6_soundHammers_43 (fun r43 => ?_)
          refine aw_aload_n (i := 0) (q := 0) dX6_soundHammers_46 rfl rfl ?_
          refine aw_getR (r := 2) flX6_11 SH_1 (by decide) rfl (rk_1_0 hR) dX6_soundHammers_47 ?_
          refine aw_iload_n (i := 3) (q := 3) dX6_soundHammers_50 rfl rfl ?_
          refine aw_aald (r := 28 + (y).toNat) SH_2 (by decide) (by decide) ⟨by omega, by omega⟩ (hR.2.1 _ (by omega) (by omega)) dX6_soundHammers_51 ?_
          refine aw_getIk (x := m (28 + (y).toNat) 1) 1 flX6_94 (SH_bell ⟨by omega, by omega⟩) ⟨by omega, by omega⟩ rfl rfl rfl dX6_soundHammers_52 (fun r52 => ?_)
          refine aw_iadd dX6_soundHammers_55 ?_
          refine aw_putIk 4 flX6_310 (SH_bell ⟨by omega, by omega⟩) ⟨by omega, by omega⟩ rfl rfl rfl (by first | assumption | omega) dX6_soundHammers_56 ?_
          refine aw_aload_n (i := 0) (q := 0) dX6_soundHammers_59 rfl rfl ?_
          refine aw_getR (r := 4) flX6_23 SH_1 (by decide) rfl (rk_1_2 hR) dX6_soundHammers_60 ?_
          refine aw_iload_n (i := 3) (q := 3) dX6_soundHammers_63 rfl rfl ?_
          refine aw_aload_n (i := 0) (q := 0) dX6_soundHammers_64 rfl rfl ?_
          refine aw_getIk (x := m 1 13) 13 flX6_73 SH_1 (by decide) rfl rfl (by (rw [aup_k (by decide)]) <;> rfl) dX6_soundHammers_65 (fun r65 => ?_)
          refine aw_iconst dX6_soundHammers_68 ?_
          refine aw_cVv (As := [iI y, iI (m 1 13), iI 0]) (st := []) clX6_313 (s_X5_add (mi := (aup m (28 + (y).toNat) 4 ((m 1 13) + (m (28 + (y).toNat) 1)))) hR (by omega) (by omega) (by omega) (by have h9 := hT.2.2.1; unfold lgOk at h9 ⊢; rw [aup_a (by omega), aup_a (by omega)]; exact h9)) SH_4 rfl (by decide) rfl rfl (Nat.le_of_ble_eq_true rfl) (by decide) (by decide) (Nat.le_refl _) (Nat.le_refl _) dX6_soundHammers_69 (fun m2 hm2 => ?_)
          refine aw_iinc (i := 2) (q := 2) (x := g) (lv' := [(0, .ref 1), (1, iI r0), (2, iI (g + 1)), (3, iI y)]) [1, 2, 0, 3] dX6_soundHammers_72 rfl (by decide) rfl ?_
          refine aw_iinc (i := 3) (q := 3) (x := y) (lv' := [(0, .ref 1), (1, iI r0), (2, iI (g + 1)), (3, iI (y + 1))]) [1, 2, 3, 0] dX6_soundHammers_75 rfl (by decide) rfl ?_
          refine aw_goto (tgt := 16) dX6_soundHammers_78 (by decide) ?_
          rw [show (mi 1 11).toNat - j = ((mi 1 11).toNat - (j + 1)) + 1 by omega] at hend
          rw [show (mi 1 11).toNat - j = ((mi 1 11).toNat - (j + 1)) + 1 by omega] at hcnt
          have hyes : r0.toNat.testBit j = true := by rw [← hjy]; rcases hbt32 with ⟨q, -⟩ | ⟨-, q⟩; (exact q); (omega)
          rw [sdF_yes hyes] at hend
          rw [cnB_yes hyes] at hcnt
          have e9 : m2 = sdA m j := by rw [hm2, hyj, Int.toNat_natCast]; rfl
          subst e9
          exact ih _ (g + 1) (y + 1) (j + 1) (tkB_sd hT (by omega)) hend (by rw [sdA_o (by omega)]; exact f11) (by rw [sdA_o (by omega)]; exact f13) (by omega) (by omega) (by omega) (by omega)
theorem s_X6_soundHammers {mr : aR} (hR : Rok mr) {mi : aM} (hT : tkB mi) (ho : sOk mi 8) : SPg yX6_soundHammers cX6_soundHammers 4 (some .int) 4 [.ref 1] mi mr (Pi mr (fun r m => ∃ (r0 : Int) (m1 : aM), (∃ rem : List Str, (sL mi 8).Perm (rem ++ sL m1 8) ∧ (∀ s ∈ rem, s.2.2 = mi 1 13) ∧ (∀ s ∈ sL m1 8, s.2.2 ≠ mi 1 13) ∧ (0 ≤ r0 ∧ r0 < 4096) ∧ (∀ b : Int, 0 ≤ b → b < 12 → (bit r0 b ↔ ∃ s ∈ rem, s.1 = b)) ∧ sOk m1 8 ∧ ∀ (x : Nat) (j : Int), (x ≠ 8 ∨ j ≠ 4) → x ≠ 9 → x ≠ 10 → x ≠ 11 → m1 x j = mi x j) ∧ m = sdF r0.toNat (mi 1 11).toNat 0 m1 ∧ r = (cnB r0.toNat (mi 1 11).toNat 0 : Int))) := by
  refine SPg.int rfl (by decide +kernel) (Nat.le_of_ble_eq_true rfl) ?_
  show AWm RX6 cX6_soundHammers 4 4 _ 0 [(0, .ref 1)] [] mi mr
  have hn := hT.1
  have hnw := hT.2.1
  refine aw_aload_n (i := 0) (q := 0) dX6_soundHammers_0 rfl rfl ?_
  refine aw_getR (r := 8) flX6_30 SH_1 (by decide) rfl (rk_1_3 hR) dX6_soundHammers_1 ?_
  refine aw_aload_n (i := 0) (q := 0) dX6_soundHammers_4 rfl rfl ?_
  refine aw_getIk (x := mi 1 13) 13 flX6_73 SH_1 (by decide) rfl rfl rfl dX6_soundHammers_5 (fun r5 => ?_)
  refine aw_cVi (As := [iI (mi 1 13)]) (st := []) clX6_307 (s_X4_takeSounding hR (Or.inl rfl) ho (by omega)) SH_8 rfl (by decide) rfl rfl (Nat.le_of_ble_eq_true rfl) (by decide) (by decide) (Nat.le_refl _) (Nat.le_refl _) dX6_soundHammers_8 (fun r0 m1 hts => ?_)
  have hts9 := hts
  obtain ⟨rem, t1, t2, t3, t4, t5, t6, t7⟩ := hts9
  refine aw_istore_n (i := 1) (lv' := [(0, .ref 1), (1, iI r0)]) [1, 0] dX6_soundHammers_11 rfl (by decide) rfl ?_
  refine aw_iconst dX6_soundHammers_12 ?_
  refine aw_istore_n (i := 2) (lv' := [(0, .ref 1), (1, iI r0), (2, iI 0)]) [1, 2, 0] dX6_soundHammers_13 rfl (by decide) rfl ?_
  refine aw_iconst dX6_soundHammers_14 ?_
  refine aw_istore_n (i := 3) (lv' := [(0, .ref 1), (1, iI r0), (2, iI 0), (3, iI 0)]) [1, 2, 3, 0] dX6_soundHammers_15 rfl (by decide) rfl ?_
  have hT1 : tkB m1 := by
    obtain ⟨h1, h2, h3, h4⟩ := hT
    refine ⟨by rw [t7 1 11 (by omega) (by omega) (by omega) (by omega)]; exact h1, by rw [t7 1 13 (by omega) (by omega) (by omega) (by omega)]; exact h2, ?_, fun i hi => ?_⟩
    · unfold lgOk at *; rw [t7 4 3 (by omega) (by omega) (by omega) (by omega), t7 4 4 (by omega) (by omega) (by omega) (by omega)]; exact h3
    · have k := h4 i hi
      unfold bOk at *
      simp only [t7 (28 + i) _ (Or.inl (by omega)) (by omega) (by omega) (by omega)]
      exact k
  exact l_sound hR hts ((mi 1 11).toNat + 1) m1 0 0 0 hT1 rfl (t7 1 11 (by omega) (by omega) (by omega) (by omega)) (t7 1 13 (by omega) (by omega) (by omega) (by omega)) rfl (by rw [Nat.sub_zero]; omega) (by omega) (by omega)
/-- a bell after its turn -/
def tnA (m : aM) (a : Nat) : aM := aup (aup (aup (aup m a 8 (trn (m a 8) (m a 7) (m a 10))) a 9 (-(m a 9))) a 11 (m a 11 + m a 3)) a 6 (if trn (m a 8) (m a 7) (m a 10) = 0 ∧ m a 7 = 0 then 0 else m a 6)
theorem tnA_eq {mi m : aM} {a : Nat} (h : m a 8 = trn (mi a 8) (mi a 7) (mi a 10) ∧ m a 9 = -(mi a 9) ∧ m a 11 = mi a 11 + mi a 3 ∧ m a 6 = (if trn (mi a 8) (mi a 7) (mi a 10) = 0 ∧ mi a 7 = 0 then 0 else mi a 6) ∧ ∀ (x : Nat) (j : Int), (x ≠ a ∨ (j ≠ 6 ∧ j ≠ 8 ∧ j ≠ 9 ∧ j ≠ 11)) → m x j = mi x j) : m = tnA mi a := by
  obtain ⟨h8, h9, h11, h6, hf⟩ := h
  funext x j
  unfold tnA
  by_cases e : x = a
  · subst e
    by_cases e6 : j = 6
    · subst e6; rw [aup_eq]; exact h6
    · rw [aup_k e6]
      by_cases e11 : j = 11
      · subst e11; rw [aup_eq]; exact h11
      · rw [aup_k e11]
        by_cases e9 : j = 9
        · subst e9; rw [aup_eq]; exact h9
        · rw [aup_k e9]
          by_cases e8 : j = 8
          · subst e8; rw [aup_eq]; exact h8
          · rw [aup_k e8]; exact hf _ _ (Or.inr ⟨e6, e8, e9, e11⟩)
  · rw [aup_a e, aup_a e, aup_a e, aup_a e]
    exact hf _ _ (Or.inl e)
theorem tnA_o {m : aM} {a x : Nat} (h : x ≠ a) (j : Int) : tnA m a x j = m x j := by
  unfold tnA
  rw [aup_a h, aup_a h, aup_a h, aup_a h]
theorem tnA_k {m : aM} {a : Nat} {j : Int} (h : j ≠ 6 ∧ j ≠ 8 ∧ j ≠ 9 ∧ j ≠ 11) (x : Nat) : tnA m a x j = m x j := by
  unfold tnA
  rw [aup_k h.1, aup_k h.2.2.2, aup_k h.2.2.1, aup_k h.2.1]
theorem tnA_8 (m : aM) (a : Nat) : tnA m a a 8 = trn (m a 8) (m a 7) (m a 10) := by
  unfold tnA
  rw [aup_k (by decide), aup_k (by decide), aup_k (by decide), aup_eq]
theorem tnA_9 (m : aM) (a : Nat) : tnA m a a 9 = -(m a 9) := by
  unfold tnA
  rw [aup_k (by decide), aup_k (by decide), aup_eq]
theorem tnA_11 (m : aM) (a : Nat) : tnA m a a 11 = m a 11 + m a 3 := by
  unfold tnA
  rw [aup_k (by decide), aup_eq]
theorem tnA_6 (m : aM) (a : Nat) : tnA m a a 6 = (if trn (m a 8) (m a 7) (m a 10) = 0 ∧ m a 7 = 0 then 0 else m a 6) := by
  unfold tnA
  rw [aup_eq]
/-- a bell's turn is due -/
def due (m : aM) (b : Nat) : Prop := m (28 + b) 6 ≠ 0 ∧ m 1 13 = m (28 + b) 11 + m (28 + b) 3
/-- behind its turn, its clapper strikes -/
def lou (m : aM) (b : Nat) : Prop := 400 ≤ m (28 + b) 8 ∧ m (28 + b) 5 = 0
/-- what one bell does: the memory -/
noncomputable def tbA (m : aM) (b : Nat) : aM := by
  classical
  exact if due m b then (if lou (tnA m (28 + b)) b then lgA (tnA m (28 + b)) b (m 1 13) 1 else tnA m (28 + b)) else m
noncomputable def tbN (m : aM) (b : Nat) : Nat := by
  classical
  exact if due m b ∧ lou (tnA m (28 + b)) b then 1 else 0
noncomputable def tbF : Nat → Nat → aM → aM
  | 0, _, m => m
  | c + 1, b, m => tbF c (b + 1) (tbA m b)
noncomputable def tbC : Nat → Nat → aM → Nat
  | 0, _, _ => 0
  | c + 1, b, m => tbN m b + tbC c (b + 1) (tbA m b)
theorem tbA_no {m : aM} {b : Nat} (h : ¬ due m b) : tbA m b = m ∧ tbN m b = 0 := by
  unfold tbA tbN
  rw [if_neg h, if_neg (fun q => h q.1)]
  exact ⟨rfl, rfl⟩
theorem tbA_q {m : aM} {b : Nat} (h : due m b) (h2 : ¬ lou (tnA m (28 + b)) b) : tbA m b = tnA m (28 + b) ∧ tbN m b = 0 := by
  unfold tbA tbN
  rw [if_pos h, if_neg h2, if_neg (fun q => h2 q.2)]
  exact ⟨rfl, rfl⟩
theorem tbA_l {m : aM} {b : Nat} (h : due m b) (h2 : lou (tnA m (28 + b)) b) : tbA m b = lgA (tnA m (28 + b)) b (m 1 13) 1 ∧ tbN m b = 1 := by
  unfold tbA tbN
  rw [if_pos h, if_pos h2, if_pos ⟨h, h2⟩]
  exact ⟨rfl, rfl⟩
theorem tbC_le : ∀ (c b : Nat) (m : aM), tbC c b m ≤ c
  | 0, _, _ => Nat.le_refl _
  | c + 1, b, m => by
    have h := tbC_le c (b + 1) (tbA m b)
    have h2 : tbN m b ≤ 1 := by unfold tbN; split <;> omega
    show tbN m b + _ ≤ _
    omega
theorem tkB_tn {m : aM} {b : Nat} (h : tkB m) (hb : b < 12) (hd : due m b) : tkB (tnA m (28 + b)) := by
  obtain ⟨h1, h2, h3, h4⟩ := h
  refine ⟨by rw [tnA_o (by omega)]; exact h1, by rw [tnA_o (by omega)]; exact h2, ?_, fun i hi => ?_⟩
  · unfold lgOk at *
    rw [tnA_o (by omega), tnA_o (by omega)]
    exact h3
  · have k := h4 i hi
    by_cases q : i = b
    · subst q
      have k8 := trn_rng (amp := m (28 + i) 8) (motor := m (28 + i) 7) (aim := m (28 + i) 10) k.2.2.2.2.2.2.2.2.1 k.2.2.2.2.2.2.2.2.2.2.1
      have hd2 := hd.2
      unfold bOk at *
      rw [tnA_8, tnA_9, tnA_11, tnA_6, tnA_k (by decide), tnA_k (by decide), tnA_k (by decide), tnA_k (by decide), tnA_k (by decide), tnA_k (by decide), tnA_k (by decide), tnA_k (by decide)]
      refine ⟨k.1, k.2.1, k.2.2.1, k.2.2.2.1, k.2.2.2.2.1, k.2.2.2.2.2.1, ?_, k.2.2.2.2.2.2.2.1, k8, by omega, k.2.2.2.2.2.2.2.2.2.2.1, by omega⟩
      split
      · exact Or.inl rfl
      · exact k.2.2.2.2.2.2.1
    · unfold bOk at *
      simp only [tnA_o (m := m) (a := 28 + b) (x := 28 + i) (by omega)]
      exact k
theorem tkB_lg {m : aM} {b t c : Int} (h : tkB m) : tkB (lgA m b t c) := by
  obtain ⟨h1, h2, h3, h4⟩ := h
  refine ⟨by rw [lgA_o (by omega)]; exact h1, by rw [lgA_o (by omega)]; exact h2, lgA_ok h3, fun i hi => ?_⟩
  have k := h4 i hi
  unfold bOk at *
  simp only [lgA_o (m := m) (b := b) (t := t) (c := c) (x := 28 + i) (by omega)]
  exact k
theorem tkB_tb {m : aM} {b : Nat} (h : tkB m) (hb : b < 12) : tkB (tbA m b) := by
  by_cases q : due m b
  · by_cases q2 : lou (tnA m (28 + b)) b
    · rw [(tbA_l q q2).1]; exact tkB_lg (tkB_tn h hb q)
    · rw [(tbA_q q q2).1]; exact tkB_tn h hb q
  · rw [(tbA_no q).1]; exact h
theorem tbA_1 {m : aM} {b : Nat} (j : Int) : tbA m b 1 j = m 1 j := by
  by_cases q : due m b
  · by_cases q2 : lou (tnA m (28 + b)) b
    · rw [(tbA_l q q2).1, lgA_o (by omega), tnA_o (by omega)]
    · rw [(tbA_q q q2).1, tnA_o (by omega)]
  · rw [(tbA_no q).1]
theorem tbF_s (c b : Nat) (m : aM) : tbF (c + 1) b m = tbF c (b + 1) (tbA m b) := rfl
theorem tbC_s (c b : Nat) (m : aM) : tbC (c + 1) b m = tbN m b + tbC c (b + 1) (tbA m b) := rfl
theorem l_turnB {mr : aR} (hR : Rok mr) {mi : aM} : ∀ (n : Nat) (m : aM) (g y : Int) (j : Nat), tkB m → tbF ((mi 1 11).toNat - j) j m = tbF (mi 1 11).toNat 0 mi → m 1 11 = mi 1 11 → y = (j : Int) → g + (tbC ((mi 1 11).toNat - j) j m : Int) = (tbC (mi 1 11).toNat 0 mi : Int) → (0 ≤ y ∧ y ≤ mi 1 11) → mi 1 11 - y < n → AWm RX6 cX6_turnBells 4 4 (Pi mr (fun r m => m = tbF (mi 1 11).toNat 0 mi ∧ r = (tbC (mi 1 11).toNat 0 mi : Int))) 4 [(0, .ref 1), (1, iI g), (2, iI y)] [] m mr := by
  intro n
  induction n with
  | zero => intro m g y j hT hend f11 hyj hcnt h2 h3; omega
  | succ n ih =>
    intro m g y j hT hend f11 hyj hcnt h2 h3
    have hn := hT.1
    have hnw := hT.2.1
    have hcl := tbC_le (mi 1 11).toNat 0 mi
    have hcl2 := tbC_le ((mi 1 11).toNat - j) j m
    refine aw_iload_n (i := 2) (q := 2) dX6_turnBells_4 rfl rfl ?_
    refine aw_aload_n (i := 0) (q := 0) dX6_turnBells_5 rfl rfl ?_
    refine aw_getIk (x := m 1 11) 11 flX6_66 SH_1 (by decide) rfl rfl rfl dX6_turnBells_6 (fun r6 => ?_)
    refine aw_icmp_ge (tgt := 73) dX6_turnBells_9 (by decide) (by first | assumption | omega) (by first | assumption | omega) (fun c9 => ?_) (fun c9 => ?_)
    · refine aw_iload_n (i := 1) (q := 1) dX6_turnBells_73 rfl rfl ?_
      exact aw_iret ⟨_, rfl, rfl, rfl, by rw [← hend, show (mi 1 11).toNat - j = 0 by omega]; rfl, by rw [show (mi 1 11).toNat - j = 0 by omega] at hcnt; have e0 : tbC 0 j m = 0 := rfl; omega⟩ (Nat.le_refl _) (Nat.le_refl _) dX6_turnBells_74
    · refine aw_aload_n (i := 0) (q := 0) dX6_turnBells_12 rfl rfl ?_
      refine aw_getR (r := 2) flX6_11 SH_1 (by decide) rfl (rk_1_0 hR) dX6_turnBells_13 ?_
      refine aw_iload_n (i := 2) (q := 2) dX6_turnBells_16 rfl rfl ?_
      refine aw_aald (r := 28 + (y).toNat) SH_2 (by decide) (by decide) ⟨by omega, by omega⟩ (hR.2.1 _ (by omega) (by omega)) dX6_turnBells_17 ?_
      refine aw_astore_n (i := 3) (lv' := [(0, .ref 1), (1, iI g), (2, iI y), (3, .ref (28 + (y).toNat))]) [1, 2, 3, 0] dX6_turnBells_18 rfl (by decide) rfl ?_
      have hjy : y.toNat = j := by omega
      have hb9 := hT.2.2.2 y.toNat (by omega)
      have hb1 := hb9.2.2.2.1
      have hb2 := hb9.2.2.2.2.2.2.2.2.2.2.2
      refine aw_aload_n (i := 3) (q := 3) dX6_turnBells_19 rfl rfl ?_
      refine aw_aload_n (i := 0) (q := 0) dX6_turnBells_20 rfl rfl ?_
      refine aw_getIk (x := m 1 13) 13 flX6_73 SH_1 (by decide) rfl rfl rfl dX6_turnBells_21 (fun r21 => ?_)
      refine aw_cVp (As := [iI (m 1 13)]) (st := []) clX6_316 (s_X0_turnsAt hR (SH_bell ⟨by omega, by omega⟩) ⟨by omega, by omega⟩ (by omega) (by omega) (by omega)) (SH_bell ⟨by omega, by omega⟩) rfl ⟨by omega, by omega⟩ rfl rfl (Nat.le_of_ble_eq_true rfl) (by decide) (by decide) (Nat.le_refl _) (Nat.le_refl _) dX6_turnBells_24 (fun v24 hv24 => ?_)
      refine aw_if_eq (tgt := 67) dX6_turnBells_27 (by decide) (by first | assumption | omega) (fun c27 => ?_) (fun c27 => ?_)
      · refine aw_iinc (i := 2) (q := 2) (x := y) (lv' := [(0, .ref 1), (1, iI g), (2, iI (y + 1)), (3, .ref (28 + (y).toNat))]) [1, 2, 0, 3] dX6_turnBells_67 rfl (by decide) rfl ?_
        refine aw_goto (tgt := 4) dX6_turnBells_70 (by decide) ?_
        refine aw_sub (lv' := [(0, .ref 1), (1, iI g), (2, iI (y + 1))]) [0, 1, 2] rfl ?_
        have hx9 := tbA_no (m := m) (b := j) (by unfold due; rw [← hjy]; omega)
        rw [show (mi 1 11).toNat - j = ((mi 1 11).toNat - (j + 1)) + 1 by omega] at hend
        rw [show (mi 1 11).toNat - j = ((mi 1 11).toNat - (j + 1)) + 1 by omega] at hcnt
        rw [tbF_s] at hend
        rw [tbC_s, hx9.2] at hcnt
        have hT9 := tkB_tb hT (b := j) (by omega)
        have k11 := tbA_1 (m := m) (b := j) 11
        rw [hx9.1] at hT9 hend hcnt k11
        exact ih _ g (y + 1) (j + 1) hT9 hend (by rw [k11]; exact f11) (by omega) (by omega) (by omega) (by omega)
      · refine aw_aload_n (i := 3) (q := 3) dX6_turnBells_30 rfl rfl ?_
        refine aw_cVv (As := []) (st := []) clX6_293 (s_X0_turn hR (SH_bell ⟨by omega, by omega⟩) ⟨by omega, by omega⟩ ⟨hb9.2.2.1, hb9.2.2.2.1, hb9.2.2.2.2.2.2.1, hb9.2.2.2.2.2.2.2.1, hb9.2.2.2.2.2.2.2.2.1, hb9.2.2.2.2.2.2.2.2.2.1, hb9.2.2.2.2.2.2.2.2.2.2.1, hb9.2.2.2.2.2.2.2.2.2.2.2⟩) (SH_bell ⟨by omega, by omega⟩) rfl ⟨by omega, by omega⟩ rfl rfl (Nat.le_of_ble_eq_true rfl) (by decide) (by decide) (Nat.le_refl _) (Nat.le_refl _) dX6_turnBells_31 (fun m1 hm1 => ?_)
        have hq1 : m1 = tnA m (28 + j) := by rw [← hjy]; exact tnA_eq hm1
        have hdue : due m j := by unfold due; rw [← hjy]; omega
        have hT1 : tkB m1 := by rw [hq1]; exact tkB_tn hT (by omega) hdue
        have g13 : m1 1 13 = m 1 13 := by rw [hq1]; exact tnA_o (by omega) _
        have g11 : m1 1 11 = m 1 11 := by rw [hq1]; exact tnA_o (by omega) _
        refine aw_aload_n (i := 3) (q := 3) dX6_turnBells_34 rfl rfl ?_
        refine aw_getIk (x := m1 (28 + (y).toNat) 8) 8 flX6_287 (SH_bell ⟨by omega, by omega⟩) ⟨by omega, by omega⟩ rfl rfl rfl dX6_turnBells_35 (fun r35 => ?_)
        refine aw_sipush (x := 400) dX6_turnBells_38 rfl ?_
        refine aw_icmp_lt (tgt := 67) dX6_turnBells_41 (by decide) (by first | assumption | omega) (by decide) (fun c41 => ?_) (fun c41 => ?_)
        · refine aw_iinc (i := 2) (q := 2) (x := y) (lv' := [(0, .ref 1), (1, iI g), (2, iI (y + 1)), (3, .ref (28 + (y).toNat))]) [1, 2, 0, 3] dX6_turnBells_67 rfl (by decide) rfl ?_
          refine aw_goto (tgt := 4) dX6_turnBells_70 (by decide) ?_
          refine aw_sub (lv' := [(0, .ref 1), (1, iI g), (2, iI (y + 1))]) [0, 1, 2] rfl ?_
          have hx9 := tbA_q (m := m) (b := j) hdue (by unfold lou; rw [← hq1, ← hjy]; omega)
          rw [hq1]
          rw [show (mi 1 11).toNat - j = ((mi 1 11).toNat - (j + 1)) + 1 by omega] at hend
          rw [show (mi 1 11).toNat - j = ((mi 1 11).toNat - (j + 1)) + 1 by omega] at hcnt
          rw [tbF_s] at hend
          rw [tbC_s, hx9.2] at hcnt
          have hT9 := tkB_tb hT (b := j) (by omega)
          have k11 := tbA_1 (m := m) (b := j) 11
          rw [hx9.1] at hT9 hend hcnt k11
          exact ih _ g (y + 1) (j + 1) hT9 hend (by rw [k11]; exact f11) (by omega) (by omega) (by omega) (by omega)
        · refine aw_aload_n (i := 3) (q := 3) dX6_turnBells_44 rfl rfl ?_
          refine aw_getIk (x := m1 (28 + (y).toNat) 5) 5 flX6_290 (SH_bell ⟨by omega, by omega⟩) ⟨by omega, by omega⟩ rfl rfl rfl dX6_turnBells_45 (fun r45 => ?_)
          refine aw_if_ne (tgt := 67) dX6_turnBells_48 (by decide) (by first | assumption | omega) (fun c48 => ?_) (fun c48 => ?_)
          · refine aw_iinc (i := 2) (q := 2) (x := y) (lv' := [(0, .ref 1), (1, iI g), (2, iI (y + 1)), (3, .ref (28 + (y).toNat))]) [1, 2, 0, 3] dX6_turnBells_67 rfl (by decide) rfl ?_
            refine aw_goto (tgt := 4) dX6_turnBells_70 (by decide) ?_
            refine aw_sub (lv' := [(0, .ref 1), (1, iI g), (2, iI (y + 1))]) [0, 1, 2] rfl ?_
            have hx9 := tbA_q (m := m) (b := j) hdue (by unfold lou; rw [← hq1, ← hjy]; omega)
            rw [hq1]
            rw [show (mi 1 11).toNat - j = ((mi 1 11).toNat - (j + 1)) + 1 by omega] at hend
            rw [show (mi 1 11).toNat - j = ((mi 1 11).toNat - (j + 1)) + 1 by omega] at hcnt
            rw [tbF_s] at hend
            rw [tbC_s, hx9.2] at hcnt
            have hT9 := tkB_tb hT (b := j) (by omega)
            have k11 := tbA_1 (m := m) (b := j) 11
            rw [hx9.1] at hT9 hend hcnt k11
            exact ih _ g (y + 1) (j + 1) hT9 hend (by rw [k11]; exact f11) (by omega) (by omega) (by omega) (by omega)
          · refine aw_aload_n (i := 0) (q := 0) dX6_turnBells_51 rfl rfl ?_
            refine aw_getR (r := 4) flX6_23 SH_1 (by decide) rfl (rk_1_2 hR) dX6_turnBells_52 ?_
            refine aw_iload_n (i := 2) (q := 2) dX6_turnBells_55 rfl rfl ?_
            refine aw_aload_n (i := 0) (q := 0) dX6_turnBells_56 rfl rfl ?_
            refine aw_getIk (x := m1 1 13) 13 flX6_73 SH_1 (by decide) rfl rfl rfl dX6_turnBells_57 (fun r57 => ?_)
            refine aw_iconst dX6_turnBells_60 ?_
            refine aw_cVv (As := [iI y, iI (m1 1 13), iI 1]) (st := []) clX6_313 (s_X5_add (mi := m1) hR (by omega) (by omega) (by omega) hT1.2.2.1) SH_4 rfl (by decide) rfl rfl (Nat.le_of_ble_eq_true rfl) (by decide) (by decide) (Nat.le_refl _) (Nat.le_refl _) dX6_turnBells_61 (fun m2 hm2 => ?_)
            have hlo : lou (tnA m (28 + j)) j := by unfold lou; rw [← hq1, ← hjy]; omega
            have hq2 : m2 = lgA (tnA m (28 + j)) j (m 1 13) 1 := by rw [hm2, ← hq1, g13, hyj]
            refine aw_iinc (i := 1) (q := 1) (x := g) (lv' := [(0, .ref 1), (1, iI (g + 1)), (2, iI y), (3, .ref (28 + (y).toNat))]) [1, 0, 2, 3] dX6_turnBells_64 rfl (by decide) rfl ?_
            refine aw_iinc (i := 2) (q := 2) (x := y) (lv' := [(0, .ref 1), (1, iI (g + 1)), (2, iI (y + 1)), (3, .ref (28 + (y).toNat))]) [1, 2, 0, 3] dX6_turnBells_67 rfl (by decide) rfl ?_
            refine aw_goto (tgt := 4) dX6_turnBells_70 (by decide) ?_
            refine aw_sub (lv' := [(0, .ref 1), (1, iI (g + 1)), (2, iI (y + 1))]) [0, 1, 2] rfl ?_
            have hx9 := tbA_l (m := m) (b := j) hdue hlo
            rw [hq2]
            rw [show (mi 1 11).toNat - j = ((mi 1 11).toNat - (j + 1)) + 1 by omega] at hend
            rw [show (mi 1 11).toNat - j = ((mi 1 11).toNat - (j + 1)) + 1 by omega] at hcnt
            rw [tbF_s] at hend
            rw [tbC_s, hx9.2] at hcnt
            have hT9 := tkB_tb hT (b := j) (by omega)
            have k11 := tbA_1 (m := m) (b := j) 11
            rw [hx9.1] at hT9 hend hcnt k11
            exact ih _ (g + 1) (y + 1) (j + 1) hT9 hend (by rw [k11]; exact f11) (by omega) (by omega) (by omega) (by omega)
theorem s_X6_turnBells {mr : aR} (hR : Rok mr) {mi : aM} (hT : tkB mi) : SPg yX6_turnBells cX6_turnBells 4 (some .int) 4 [.ref 1] mi mr (Pi mr (fun r m => m = tbF (mi 1 11).toNat 0 mi ∧ r = (tbC (mi 1 11).toNat 0 mi : Int))) := by
  refine SPg.int rfl (by decide +kernel) (Nat.le_of_ble_eq_true rfl) ?_
  show AWm RX6 cX6_turnBells 4 4 _ 0 [(0, .ref 1)] [] mi mr
  have hn := hT.1
  refine aw_iconst dX6_turnBells_0 ?_
  refine aw_istore_n (i := 1) (lv' := [(0, .ref 1), (1, iI 0)]) [1, 0] dX6_turnBells_1 rfl (by decide) rfl ?_
  refine aw_iconst dX6_turnBells_2 ?_
  refine aw_istore_n (i := 2) (lv' := [(0, .ref 1), (1, iI 0), (2, iI 0)]) [1, 2, 0] dX6_turnBells_3 rfl (by decide) rfl ?_
  exact l_turnB hR ((mi 1 11).toNat + 1) mi 0 0 0 hT rfl rfl rfl (by rw [Nat.sub_zero]; omega) (by omega) (by omega)
