-- part 26: readyTime, swingsIn, weaveFrom, weave, fastestTicks (printed by wip/whole/gen/p26.py)
theorem dP_fr {mi m : aM} {mr : aR} {a : Nat} {T s : Int} (h : dP mi mr a T s) (hf : fr13 mi m) : dP m mr a T s := by
  obtain ⟨h1, h2, h3, h4, h5⟩ := h
  have hfar := isP_far h1
  refine ⟨h1, ?_, ?_, ?_, h5⟩
  · obtain ⟨q1, q2⟩ := h2
    have e : m a 1 = mi a 1 := hf _ _ hfar.1
    refine ⟨by rw [e]; exact q1, fun k k0 k1 => ?_⟩
    rw [hf _ _ hfar.2]
    exact q2 k k0 (by rw [← e]; exact k1)
  · obtain ⟨q1, q2, q3⟩ := h3
    refine ⟨by rw [hf 1 11 (by omega)]; exact q1, by rw [hf 1 13 (by omega)]; exact q2, fun i hi => ?_⟩
    have hm : ∀ j : Int, m (28 + i) j = mi (28 + i) j := fun j => hf _ _ (by omega)
    have := q3 i hi
    unfold bOk at *
    simp only [hm, hf 1 13 (by omega)]
    exact this
  · rw [hf 1 14 (by omega)]; exact h4
theorem dC_fr {mi m : aM} (hf : fr13 mi m) : dC m = dC mi := by
  funext b
  exact hf _ _ (by omega)
theorem outL_fr {mi m : aM} {mr : aR} {a : Nat} {T s : Int} (h : isP mr a) (hf : fr13 mi m) : outL (fun k => m (a + 1) k) (m 1 11).toNat T s (m a 1).toNat 0 = outL (fun k => mi (a + 1) k) (mi 1 11).toNat T s (mi a 1).toNat 0 := by
  have hfar := isP_far h
  rw [hf 1 11 (by omega), hf a 1 hfar.1]
  congr 1
  funext k
  exact hf _ _ hfar.2
theorem plL_fr {mi m : aM} {mr : aR} {a : Nat} {T s : Int} (h : isP mr a) (hf : fr13 mi m) : plL (eC m) (dC m) (outL (fun k => m (a + 1) k) (m 1 11).toNat T s (m a 1).toNat 0) (sL m 8) = plL (eC mi) (dC mi) (outL (fun k => mi (a + 1) k) (mi 1 11).toNat T s (mi a 1).toNat 0) (sL mi 8) := by
  rw [outL_fr h hf, dC_fr hf, fr13_sL hf]
  congr 1
  funext L b t
  exact congrFun (congrFun (congrFun (eC_fr hf) L) b) t
theorem ptS_ex {S : Int → Int} {b : Int} (hb : 0 ≤ b ∧ b < 12) : ∀ n : Nat, (∀ k : Int, 0 ≤ k → k < n → 0 ≤ S k ∧ S k < 4096) → 0 < ptS S ((2 ^ b.toNat : Nat) : Int) n → ∃ k : Nat, k < n ∧ bit (S k) b
  | 0, _, h => by simp [ptS] at h
  | n + 1, hS, h => by
    by_cases e : bit (S n) b
    · exact ⟨n, by omega, e⟩
    · have h1 := pcn_one (x := S n) (hS n (by omega) (by omega)) hb
      have h2 : pcn ((S n).toNat &&& 2 ^ b.toNat) = 0 := by rcases h1 with ⟨q, -⟩ | ⟨-, q⟩; (exact absurd q e); (exact q)
      have h3 : ptS S ((2 ^ b.toNat : Nat) : Int) (n + 1) = ptS S ((2 ^ b.toNat : Nat) : Int) n + (pcn ((S n).toNat &&& (((2 ^ b.toNat : Nat) : Int)).toNat) : Int) := rfl
      rw [Int.toNat_natCast, h2] at h3
      obtain ⟨k, k1, k2⟩ := ptS_ex hb n (fun k k0 k1 => hS k k0 (by omega)) (by omega)
      exact ⟨k, by omega, k2⟩
/-- a bound below which no play starts -/
def rdy (mi : aM) (S : Int → Int) (n : Nat) (s g : Int) : Prop := (0 ≤ g ∧ g ≤ 100200) ∧ (g = 0 ∨ ∃ (k : Nat) (b : Int), k < n ∧ (0 ≤ b ∧ b < mi 1 11) ∧ bit (S k) b ∧ (g ≤ mi 1 13 + mi (28 + b.toNat) 0 - k * s ∨ g ≤ mi (28 + b.toNat) 4 + mi (28 + b.toNat) 0 - k * s))
theorem rdy_no {mi : aM} {S : Int → Int} {n : Nat} {s g T : Int} (hn : 0 ≤ mi 1 11) (h : rdy mi S n s g) (hT : 0 ≤ T) (h2 : T < g) : okT mi S (mi 1 11).toNat n s T ≠ 0 := by
  rcases h.2 with q | ⟨k, b, h3, h4, h5, h6⟩
  · omega
  · refine early_no h3 (by omega) h5 ?_ _
    unfold dC
    omega
theorem swi_no {mi : aM} {S : Int → Int} {n : Nat} {s T b : Int} {k : Nat} (hn : 0 ≤ mi 1 11) (hk : k < n) (hb : 0 ≤ b ∧ b < mi 1 11) (h : bit (S k) b) (hs : mi (28 + b.toNat) 6 ≠ 0) : okT mi S (mi 1 11).toNat n s T ≠ 0 := early_no hk (by omega) h (Or.inr (Or.inr hs)) _
theorem l_swi {mr : aR} (hR : Rok mr) {mi : aM} {a : Nat} (hp : isP mr a) (hpo : pOk mi a) (hn : 0 ≤ mi 1 11 ∧ mi 1 11 ≤ 12) : ∀ (n : Nat) (y : Int), (0 ≤ y ∧ y ≤ mi 1 11) → mi 1 11 - y < n → AWm RX6 cX6_swingsIn 3 3 (Pp mi mr (fun r => (r = 1 ∧ ∃ (k : Nat) (b : Int), k < (mi a 1).toNat ∧ (0 ≤ b ∧ b < mi 1 11) ∧ bit (mi (a + 1) k) b ∧ mi (28 + b.toNat) 6 ≠ 0) ∨ r = 0)) 2 [(0, .ref 1), (1, .ref a), (2, iI y)] [] mi mr := by
  intro n
  induction n with
  | zero => intro y h1 h2; omega
  | succ n ih =>
    intro y h1 h2
    refine aw_iload_n (i := 2) (q := 2) dX6_swingsIn_2 rfl rfl ?_
    refine aw_aload_n (i := 0) (q := 0) dX6_swingsIn_3 rfl rfl ?_
    refine aw_getIk (x := mi 1 11) 11 flX6_66 SH_1 (by decide) rfl rfl rfl dX6_swingsIn_4 (fun r4 => ?_)
    refine aw_icmp_ge (tgt := 40) dX6_swingsIn_7 (by decide) (by first | assumption | omega) (by first | assumption | omega) (fun c7 => ?_) (fun c7 => ?_)
    · refine aw_iconst dX6_swingsIn_40 ?_
      exact aw_iret ⟨_, rfl, rfl, rfl, rfl, (Or.inr rfl)⟩ (Nat.le_refl _) (Nat.le_refl _) dX6_swingsIn_41
    · refine aw_aload_n (i := 0) (q := 0) dX6_swingsIn_10 rfl rfl ?_
      refine aw_getR (r := 2) flX6_11 SH_1 (by decide) rfl (rk_1_0 hR) dX6_swingsIn_11 ?_
      refine aw_iload_n (i := 2) (q := 2) dX6_swingsIn_14 rfl rfl ?_
      refine aw_aald (r := 28 + (y).toNat) SH_2 (by decide) (by decide) ⟨by omega, by omega⟩ (hR.2.1 _ (by omega) (by omega)) dX6_swingsIn_15 ?_
      refine aw_getIk (x := mi (28 + (y).toNat) 6) 6 flX6_162 (SH_bell ⟨by omega, by omega⟩) ⟨by omega, by omega⟩ rfl rfl rfl dX6_swingsIn_16 (fun r16 => ?_)
      refine aw_if_eq (tgt := 34) dX6_swingsIn_19 (by decide) (by first | assumption | omega) (fun c19 => ?_) (fun c19 => ?_)
      · refine aw_iinc (i := 2) (q := 2) (x := y) (lv' := [(0, .ref 1), (1, .ref a), (2, iI (y + 1))]) [1, 2, 0] dX6_swingsIn_34 rfl (by decide) rfl ?_
        refine aw_goto (tgt := 2) dX6_swingsIn_37 (by decide) ?_
        exact ih _ (by omega) (by omega)
      · refine aw_aload_n (i := 1) (q := 1) dX6_swingsIn_22 rfl rfl ?_
        have hpw := pow_rng (b := y) ⟨by omega, by omega⟩
        refine aw_iconst dX6_swingsIn_23 ?_
        refine aw_iload_n (i := 2) (q := 2) dX6_swingsIn_24 rfl rfl ?_
        refine aw_ishl (z := ((2 ^ (y).toNat : Nat) : Int)) dX6_swingsIn_25 (bt_shl (by omega)) ?_
        refine aw_cVp (As := [iI (((2 ^ (y).toNat : Nat) : Int))]) (st := []) clX6_211 (s_X2_strokesOf hR hp hpo (by have := pow_rng (b := y) ⟨by omega, by omega⟩; omega)) hp.1 rfl hp.2.2.1 rfl rfl (Nat.le_of_ble_eq_true rfl) (by decide) (by decide) (Nat.le_refl _) (Nat.le_refl _) dX6_swingsIn_26 (fun v26 hv26 => ?_)
        have hr26 := ptS_rng (fun k => mi (a + 1) k) (((2 ^ y.toNat : Nat)) : Int) (mi a 1).toNat
        rw [← hv26] at hr26
        have hc26 := hpo.1
        refine aw_if_le (tgt := 34) dX6_swingsIn_29 (by decide) (by first | assumption | omega) (fun c29 => ?_) (fun c29 => ?_)
        · refine aw_iinc (i := 2) (q := 2) (x := y) (lv' := [(0, .ref 1), (1, .ref a), (2, iI (y + 1))]) [1, 2, 0] dX6_swingsIn_34 rfl (by decide) rfl ?_
          refine aw_goto (tgt := 2) dX6_swingsIn_37 (by decide) ?_
          exact ih _ (by omega) (by omega)
        · refine aw_iconst dX6_swingsIn_32 ?_
          exact aw_iret ⟨_, rfl, rfl, rfl, rfl, (Or.inl ⟨rfl, by obtain ⟨k, k1, k2⟩ := ptS_ex (S := fun k => mi (a + 1) k) (b := y) ⟨by omega, by omega⟩ (mi a 1).toNat (fun k k0 k1 => hpo.2 k k0 (by have := hpo.1; omega)) (show 0 < _ by rw [← hv26]; omega); exact ⟨k, y, k1, ⟨by omega, by omega⟩, k2, by omega⟩⟩)⟩ (Nat.le_refl _) (Nat.le_refl _) dX6_swingsIn_33
theorem s_X6_swingsIn {mr : aR} (hR : Rok mr) {mi : aM} {a : Nat} (hp : isP mr a) (hpo : pOk mi a) (hn : 0 ≤ mi 1 11 ∧ mi 1 11 ≤ 12) : SPg yX6_swingsIn cX6_swingsIn 3 (some .boolean) 3 [.ref 1, .ref a] mi mr (Pp mi mr (fun r => (r = 1 ∧ ∃ (k : Nat) (b : Int), k < (mi a 1).toNat ∧ (0 ≤ b ∧ b < mi 1 11) ∧ bit (mi (a + 1) k) b ∧ mi (28 + b.toNat) 6 ≠ 0) ∨ r = 0)) := by
  refine SPg.boolp rfl (by decide +kernel) (Nat.le_of_ble_eq_true rfl) (fun r h => by (rcases h with ⟨h, -⟩ | h <;> omega)) ?_
  show AWm RX6 cX6_swingsIn 3 3 _ 0 [(0, .ref 1), (1, .ref a)] [] mi mr
  refine aw_iconst dX6_swingsIn_0 ?_
  refine aw_istore_n (i := 2) (lv' := [(0, .ref 1), (1, .ref a), (2, iI 0)]) [1, 2, 0] dX6_swingsIn_1 rfl (by decide) rfl ?_
  exact l_swi hR hp hpo hn ((mi 1 11).toNat + 1) 0 (by omega) (by omega)
theorem l_rdy2 {mr : aR} (hR : Rok mr) {mi : aM} {a : Nat} {s : Int} (hd : dP mi mr a 0 s) {z struck : Int} {i : Nat} (hz : z = (i : Int)) (hzr : 0 ≤ z ∧ z < mi a 1) (hst : (0 ≤ struck ∧ struck < 4096) ∧ ∀ y : Int, 0 ≤ y ∧ y < mi 1 11 → (bit struck y ↔ bit (mi (a + 1) z) y)) (kx : ∀ (g : Int), rdy mi (fun k => mi (a + 1) k) (mi a 1).toNat s g → AWm RX6 cX6_readyTime 9 3 (Pp mi mr (fun r => rdy mi (fun k => mi (a + 1) k) (mi a 1).toNat s r)) 5 [(0, .ref 1), (1, .ref a), (2, iI s), (3, iI g), (4, iI (z + 1))] [] mi mr) : ∀ (n : Nat) (g y : Int), rdy mi (fun k => mi (a + 1) k) (mi a 1).toNat s g → (0 ≤ y ∧ y ≤ mi 1 11) → mi 1 11 - y < n → AWm RX6 cX6_readyTime 9 3 (Pp mi mr (fun r => rdy mi (fun k => mi (a + 1) k) (mi a 1).toNat s r)) 31 [(0, .ref 1), (1, .ref a), (2, iI s), (3, iI g), (4, iI z), (5, iI struck), (6, iI y)] [] mi mr := by
  intro n
  induction n with
  | zero => intro g y hg h2 h3; omega
  | succ n ih =>
    intro g y hg h2 h3
    have hn := hd.2.2.1.1
    have hnw := hd.2.2.1.2.1
    have hs := hd.2.2.2.2.2
    have hp1 := hd.2.1.1
    have hg9 := hg.1
    have hms := mul_lt (z := z) (s := s) (by omega) hs
    refine aw_iload (i := 6) (q := 6) dX6_readyTime_31 rfl ?_
    refine aw_aload_n (i := 0) (q := 0) dX6_readyTime_33 rfl rfl ?_
    refine aw_getIk (x := mi 1 11) 11 flX6_66 SH_1 (by decide) rfl rfl rfl dX6_readyTime_34 (fun r34 => ?_)
    refine aw_icmp_ge (tgt := 102) dX6_readyTime_37 (by decide) (by first | assumption | omega) (by first | assumption | omega) (fun c37 => ?_) (fun c37 => ?_)
    · refine aw_sub (lv' := [(0, .ref 1), (1, .ref a), (2, iI s), (3, iI g), (4, iI z)]) [0, 1, 2, 3, 4] rfl ?_
      refine aw_iinc (i := 4) (q := 4) (x := z) (lv' := [(0, .ref 1), (1, .ref a), (2, iI s), (3, iI g), (4, iI (z + 1))]) [1, 2, 3, 4, 0] dX6_readyTime_102 rfl (by decide) rfl ?_
      refine aw_goto (tgt := 5) dX6_readyTime_105 (by decide) ?_
      exact kx g hg
    · refine aw_iload (i := 5) (q := 5) dX6_readyTime_40 rfl ?_
      refine aw_if_eq (tgt := 102) dX6_readyTime_42 (by decide) (by first | assumption | omega) (fun c42 => ?_) (fun c42 => ?_)
      · refine aw_sub (lv' := [(0, .ref 1), (1, .ref a), (2, iI s), (3, iI g), (4, iI z)]) [0, 1, 2, 3, 4] rfl ?_
        refine aw_iinc (i := 4) (q := 4) (x := z) (lv' := [(0, .ref 1), (1, .ref a), (2, iI s), (3, iI g), (4, iI (z + 1))]) [1, 2, 3, 4, 0] dX6_readyTime_102 rfl (by decide) rfl ?_
        refine aw_goto (tgt := 5) dX6_readyTime_105 (by decide) ?_
        exact kx g hg
      · refine aw_iload (i := 5) (q := 5) dX6_readyTime_45 rfl ?_
        refine aw_iload (i := 6) (q := 6) dX6_readyTime_47 rfl ?_
        refine aw_ishr (z := (((struck).toNat / 2 ^ (y).toNat : Nat) : Int)) dX6_readyTime_49 (bt_shr (by omega) (by omega)) ?_
        refine aw_iconst dX6_readyTime_50 ?_
        obtain ⟨bw51, hbw51, hbt51⟩ := bit_w struck y
        refine aw_iand (z := bw51) dX6_readyTime_51 (by rw [hbw51]; exact bt_and (shr_rng (by omega)) (by decide)) ?_
        refine aw_if_eq (tgt := 96) dX6_readyTime_52 (by decide) (by first | assumption | omega) (fun c52 => ?_) (fun c52 => ?_)
        · refine aw_iinc (i := 6) (q := 6) (x := y) (lv' := [(0, .ref 1), (1, .ref a), (2, iI s), (3, iI g), (4, iI z), (5, iI struck), (6, iI (y + 1))]) [1, 2, 3, 4, 5, 6, 0] dX6_readyTime_96 rfl (by decide) rfl ?_
          refine aw_goto (tgt := 31) dX6_readyTime_99 (by decide) ?_
          exact ih g (y + 1) hg (by omega) (by omega)
        · have hbx := hst.2 y (by omega)
          have hyes : bit (mi (a + 1) z) y := hbx.mp (by rcases hbt51 with ⟨q, -⟩ | ⟨-, q⟩; (exact q); (omega))
          have hb9 := (hd.2.2.1.2.2 y.toNat (by omega)).1
          have hb0 := hb9.1
          have hb4 := hb9.2.2.2.2.1
          refine aw_aload_n (i := 0) (q := 0) dX6_readyTime_55 rfl rfl ?_
          refine aw_getR (r := 2) flX6_11 SH_1 (by decide) rfl (rk_1_0 hR) dX6_readyTime_56 ?_
          refine aw_iload (i := 6) (q := 6) dX6_readyTime_59 rfl ?_
          refine aw_aald (r := 28 + (y).toNat) SH_2 (by decide) (by decide) ⟨by omega, by omega⟩ (hR.2.1 _ (by omega) (by omega)) dX6_readyTime_61 ?_
          refine aw_astore (i := 7) (lv' := [(0, .ref 1), (1, .ref a), (2, iI s), (3, iI g), (4, iI z), (5, iI struck), (6, iI y), (7, .ref (28 + (y).toNat))]) [1, 2, 3, 4, 5, 6, 7, 0] dX6_readyTime_62 (by decide) rfl ?_
          refine aw_aload_n (i := 0) (q := 0) dX6_readyTime_64 rfl rfl ?_
          refine aw_getIk (x := mi 1 13) 13 flX6_73 SH_1 (by decide) rfl rfl rfl dX6_readyTime_65 (fun r65 => ?_)
          refine aw_aload (i := 7) (q := 7) dX6_readyTime_68 rfl ?_
          refine aw_getIk (x := mi (28 + (y).toNat) 4) 4 flX6_310 (SH_bell ⟨by omega, by omega⟩) ⟨by omega, by omega⟩ rfl rfl rfl dX6_readyTime_70 (fun r70 => ?_)
          refine aw_mmax (x := mi 1 13) (st := []) (by omega) (by omega) clX6_236 (Nat.le_of_ble_eq_true rfl) (by decide) (Nat.le_refl _) (Nat.le_refl _) dX6_readyTime_73 (fun m73 hm73 => ?_)
          refine aw_aload (i := 7) (q := 7) dX6_readyTime_76 rfl ?_
          refine aw_getIk (x := mi (28 + (y).toNat) 0) 0 flX6_91 (SH_bell ⟨by omega, by omega⟩) ⟨by omega, by omega⟩ rfl rfl rfl dX6_readyTime_78 (fun r78 => ?_)
          refine aw_iadd dX6_readyTime_81 ?_
          refine aw_istore (i := 8) (lv' := [(0, .ref 1), (1, .ref a), (2, iI s), (3, iI g), (4, iI z), (5, iI struck), (6, iI y), (7, .ref (28 + (y).toNat)), (8, iI (m73 + (mi (28 + (y).toNat) 0)))]) [1, 2, 3, 4, 5, 6, 7, 8, 0] dX6_readyTime_82 (by decide) rfl ?_
          refine aw_iload_n (i := 3) (q := 3) dX6_readyTime_84 rfl rfl ?_
          refine aw_iload (i := 8) (q := 8) dX6_readyTime_85 rfl ?_
          refine aw_iload (i := 4) (q := 4) dX6_readyTime_87 rfl ?_
          refine aw_iload_n (i := 2) (q := 2) dX6_readyTime_89 rfl rfl ?_
          refine aw_imul dX6_readyTime_90 ?_
          refine aw_isub dX6_readyTime_91 ?_
          refine aw_mmax (x := g) (st := []) (by omega) (by omega) clX6_236 (Nat.le_of_ble_eq_true rfl) (by decide) (Nat.le_refl _) (Nat.le_refl _) dX6_readyTime_92 (fun m92 hm92 => ?_)
          refine aw_istore_n (i := 3) (lv' := [(0, .ref 1), (1, .ref a), (2, iI s), (3, iI m92), (4, iI z), (5, iI struck), (6, iI y), (7, .ref (28 + (y).toNat)), (8, iI (m73 + (mi (28 + (y).toNat) 0)))]) [1, 2, 3, 0, 4, 5, 6, 7, 8] dX6_readyTime_95 rfl (by decide) rfl ?_
          refine aw_iinc (i := 6) (q := 6) (x := y) (lv' := [(0, .ref 1), (1, .ref a), (2, iI s), (3, iI m92), (4, iI z), (5, iI struck), (6, iI (y + 1)), (7, .ref (28 + (y).toNat)), (8, iI (m73 + (mi (28 + (y).toNat) 0)))]) [1, 2, 3, 4, 5, 6, 0, 7, 8] dX6_readyTime_96 rfl (by decide) rfl ?_
          refine aw_goto (tgt := 31) dX6_readyTime_99 (by decide) ?_
          refine aw_sub (lv' := [(0, .ref 1), (1, .ref a), (2, iI s), (3, iI m92), (4, iI z), (5, iI struck), (6, iI (y + 1))]) [0, 1, 2, 3, 4, 5, 6] rfl ?_
          exact ih _ (y + 1) ⟨by omega, by by_cases e9 : m92 = g; (rw [e9]; exact hg.2); (exact Or.inr ⟨i, y, by omega, ⟨by omega, by omega⟩, by rw [← hz]; exact hyes, by rw [← hz]; omega⟩)⟩ (by omega) (by omega)
theorem l_rdy1 {mr : aR} (hR : Rok mr) {mi : aM} {a : Nat} {s : Int} (hd : dP mi mr a 0 s) : ∀ (n : Nat) (g z : Int) (i : Nat), rdy mi (fun k => mi (a + 1) k) (mi a 1).toNat s g → z = (i : Int) → (0 ≤ z ∧ z ≤ mi a 1) → mi a 1 - z < n → AWm RX6 cX6_readyTime 9 3 (Pp mi mr (fun r => rdy mi (fun k => mi (a + 1) k) (mi a 1).toNat s r)) 5 [(0, .ref 1), (1, .ref a), (2, iI s), (3, iI g), (4, iI z)] [] mi mr := by
  intro n
  induction n with
  | zero => intro g z i hg hz h2 h3; omega
  | succ n ih =>
    intro g z i hg hz h2 h3
    have hn := hd.2.2.1.1
    have hnw := hd.2.2.1.2.1
    have hs := hd.2.2.2.2.2
    have hp1 := hd.2.1.1
    have hg9 := hg.1
    have hex := ex_set hn
    refine aw_iload (i := 4) (q := 4) dX6_readyTime_5 rfl ?_
    refine aw_aload_n (i := 1) (q := 1) dX6_readyTime_7 rfl rfl ?_
    refine aw_getIk (x := mi a 1) 1 flX6_201 hd.1.1 hd.1.2.2.1 rfl rfl rfl dX6_readyTime_8 (fun r8 => ?_)
    refine aw_icmp_ge (tgt := 108) dX6_readyTime_11 (by decide) (by first | assumption | omega) (by first | assumption | omega) (fun c11 => ?_) (fun c11 => ?_)
    · refine aw_iload_n (i := 3) (q := 3) dX6_readyTime_108 rfl rfl ?_
      exact aw_iret ⟨_, rfl, rfl, rfl, rfl, hg⟩ (Nat.le_refl _) (Nat.le_refl _) dX6_readyTime_109
    · refine aw_aload_n (i := 1) (q := 1) dX6_readyTime_14 rfl rfl ?_
      refine aw_getR (r := a + 1) flX6_193 hd.1.1 hd.1.2.2.1 rfl hd.1.2.2.2.2 dX6_readyTime_15 ?_
      have hst9 := hd.2.1.2 z (by omega) (by omega)
      refine aw_iload (i := 4) (q := 4) dX6_readyTime_18 rfl ?_
      refine aw_ialdv (x := mi (a + 1) z) hd.1.2.1 hd.1.2.2.2.1 ⟨by omega, by omega⟩ rfl dX6_readyTime_20 (fun r20 => ?_)
      refine aw_aload_n (i := 0) (q := 0) dX6_readyTime_21 rfl rfl ?_
      refine aw_cVp (As := []) (st := [iI (mi (a + 1) z)]) clX6_208 (s_X6_existingBells hR hn) SH_1 rfl (by decide) rfl rfl (Nat.le_of_ble_eq_true rfl) (by decide) (by decide) (Nat.le_refl _) (Nat.le_refl _) dX6_readyTime_22 (fun ex hex9 => ?_)
      subst hex9
      refine aw_iand (z := (((mi (a + 1) z).toNat &&& (((2 ^ (mi 1 11).toNat : Nat) : Int) - 1).toNat : Nat) : Int)) dX6_readyTime_25 (bt_and (by omega) (by omega)) ?_
      refine aw_istore (i := 5) (lv' := [(0, .ref 1), (1, .ref a), (2, iI s), (3, iI g), (4, iI z), (5, iI ((((mi (a + 1) z).toNat &&& (((2 ^ (mi 1 11).toNat : Nat) : Int) - 1).toNat : Nat) : Int)))]) [1, 2, 3, 4, 5, 0] dX6_readyTime_26 (by decide) rfl ?_
      refine aw_iconst dX6_readyTime_28 ?_
      refine aw_istore (i := 6) (lv' := [(0, .ref 1), (1, .ref a), (2, iI s), (3, iI g), (4, iI z), (5, iI ((((mi (a + 1) z).toNat &&& (((2 ^ (mi 1 11).toNat : Nat) : Int) - 1).toNat : Nat) : Int))), (6, iI 0)]) [1, 2, 3, 4, 5, 6, 0] dX6_readyTime_29 (by decide) rfl ?_
      exact l_rdy2 hR hd hz (by omega) ⟨and_rng hst9, fun y hy => stk_bit hn.1 hy⟩ (fun g h => ih g (z + 1) (i + 1) h (by omega) (by omega) (by omega)) ((mi 1 11).toNat + 1) g 0 hg (by omega) (by omega)
theorem s_X6_readyTime {mr : aR} (hR : Rok mr) {mi : aM} {a : Nat} {s : Int} (hd : dP mi mr a 0 s) : SPg yX6_readyTime cX6_readyTime 9 (some .int) 3 [.ref 1, .ref a, iI s] mi mr (Pp mi mr (fun r => rdy mi (fun k => mi (a + 1) k) (mi a 1).toNat s r)) := by
  refine SPg.pure rfl (by decide +kernel) (Nat.le_of_ble_eq_true rfl) ?_
  show AWm RX6 cX6_readyTime 9 3 _ 0 [(0, .ref 1), (1, .ref a), (2, iI s)] [] mi mr
  refine aw_iconst dX6_readyTime_0 ?_
  refine aw_istore_n (i := 3) (lv' := [(0, .ref 1), (1, .ref a), (2, iI s), (3, iI 0)]) [1, 2, 3, 0] dX6_readyTime_1 rfl (by decide) rfl ?_
  refine aw_iconst dX6_readyTime_2 ?_
  refine aw_istore (i := 4) (lv' := [(0, .ref 1), (1, .ref a), (2, iI s), (3, iI 0), (4, iI 0)]) [1, 2, 3, 4, 0] dX6_readyTime_3 (by decide) rfl ?_
  exact l_rdy1 hR hd ((mi a 1).toNat + 1) 0 0 0 ⟨by omega, Or.inl rfl⟩ rfl ⟨by omega, hd.2.1.1.1⟩ (by have := hd.2.1.1; omega)
theorem dP_T {mi : aM} {mr : aR} {a : Nat} {T T' s : Int} (h : dP mi mr a T s) (h2 : 0 ≤ T' ∧ T' ≤ 100600) : dP mi mr a T' s := ⟨h.1, h.2.1, h.2.2.1, h.2.2.2.1, h2, h.2.2.2.2.2⟩
theorem l_weave {mr : aR} (hR : Rok mr) {mi : aM} {a : Nat} {T s W : Int} (hd : dP mi mr a 0 s) (ho : sOk mi 8) (hT : 0 ≤ T ∧ T ≤ 100000) (hW : 0 ≤ W ∧ W ≤ 500) {st9 tot : Int} : ∀ (n : Nat) (m : aM) (t : Int), fr13 mi m → (∀ u : Int, T ≤ u → u < t → okT mi (fun k => mi (a + 1) k) (mi 1 11).toNat (mi a 1).toNat s (u) ≠ 0) → (T ≤ t ∧ (t ≤ T + W + 1 ∨ t ≤ 200000)) → T + W + 200000 - t < n → AWm RX6 cX6_weaveFrom 8 5 (Pi mr (fun r m => fr817 mi m ∧ sOk m 8 ∧ ((r = -1 ∧ (∀ v : Int, 0 ≤ v → v ≤ W → okT mi (fun k => mi (a + 1) k) (mi 1 11).toNat (mi a 1).toNat s (T + v) ≠ 0) ∧ sL m 8 = sL mi 8) ∨ ((0 ≤ r ∧ r ≤ W) ∧ okT mi (fun k => mi (a + 1) k) (mi 1 11).toNat (mi a 1).toNat s (T + r) = 0 ∧ (∀ v : Int, 0 ≤ v → v < r → okT mi (fun k => mi (a + 1) k) (mi 1 11).toNat (mi a 1).toNat s (T + v) ≠ 0) ∧ ((plL (eC mi) (dC mi) (outL (fun k => mi (a + 1) k) (mi 1 11).toNat (T + r) s (mi a 1).toNat 0) (sL mi 8)).2).Perm (sL m 8))))) 70 [(0, .ref 1), (1, .ref a), (2, iI T), (3, iI s), (4, iI W), (5, iI st9), (6, iI tot), (7, iI t)] [] m mr := by
  intro n
  induction n with
  | zero => intro m t hfr h2 h3 h4; omega
  | succ n ih =>
    intro m t hfr h2 h3 h4
    have hn := hd.2.2.1.1
    have hnw := hd.2.2.1.2.1
    have hs := hd.2.2.2.2.2
    refine aw_iload (i := 7) (q := 7) dX6_weaveFrom_70 rfl ?_
    refine aw_iload_n (i := 2) (q := 2) dX6_weaveFrom_72 rfl rfl ?_
    refine aw_iload (i := 4) (q := 4) dX6_weaveFrom_73 rfl ?_
    refine aw_iadd dX6_weaveFrom_75 ?_
    refine aw_icmp_gt (tgt := 112) dX6_weaveFrom_76 (by decide) (by first | assumption | omega) (by first | assumption | omega) (fun c76 => ?_) (fun c76 => ?_)
    · refine aw_iconst dX6_weaveFrom_112 ?_
      exact aw_iret ⟨_, rfl, rfl, rfl, ⟨fun x j hx => hfr x j (by omega), fr13_ok hfr ho, Or.inl ⟨rfl, fun v v0 v1 => h2 _ (by omega) (by omega), fr13_sL hfr⟩⟩⟩ (Nat.le_refl _) (Nat.le_refl _) dX6_weaveFrom_113
    · refine aw_aload_n (i := 0) (q := 0) dX6_weaveFrom_79 rfl rfl ?_
      refine aw_aload_n (i := 1) (q := 1) dX6_weaveFrom_80 rfl rfl ?_
      refine aw_iload (i := 7) (q := 7) dX6_weaveFrom_81 rfl ?_
      refine aw_iload_n (i := 3) (q := 3) dX6_weaveFrom_83 rfl rfl ?_
      refine aw_cVi (As := [.ref a, iI t, iI s]) (st := []) clX6_214 (s_X6_draftPattern (mi := m) (a := a) (T := t) (s := s) hR (dP_fr (dP_T hd (by omega)) hfr) (fr13_ok hfr ho)) SH_1 rfl (by decide) rfl rfl (Nat.le_of_ble_eq_true rfl) (by decide) (by decide) (Nat.le_refl _) (Nat.le_refl _) dX6_weaveFrom_84 (fun v84 m1 hv84 => ?_)
      have hf1 : fr13 mi m1 := fun x j hx => (hv84.2 x j hx).trans (hfr x j hx)
      have hq9 := hv84.1
      rw [plL_fr hd.1 hfr, outL_fr hd.1 hfr] at hq9
      have hplr := plL_rng (mi := mi) (outL (fun k => mi (a + 1) k) (mi 1 11).toNat (t) s (mi a 1).toNat 0) (sL mi 8)
      have hle9 := outL_1200 (fun k => mi (a + 1) k) t s (NB := (mi 1 11).toNat) (c := (mi a 1).toNat) 0 (by have := hd.2.2.1.1; omega) (by have := hd.2.1.1; omega)
      have hv84r : -8 ≤ v84 ∧ v84 ≤ 1200 := by rcases hq9 with q | q; (have := q.2; omega); (have := q.2.1; omega)
      refine aw_if_lt (tgt := 106) dX6_weaveFrom_87 (by decide) (by first | assumption | omega) (fun c87 => ?_) (fun c87 => ?_)
      · refine aw_iinc (i := 7) (q := 7) (x := t) (lv' := [(0, .ref 1), (1, .ref a), (2, iI T), (3, iI s), (4, iI W), (5, iI st9), (6, iI tot), (7, iI (t + 1))]) [1, 2, 3, 4, 5, 6, 7, 0] dX6_weaveFrom_106 rfl (by decide) rfl ?_
        refine aw_goto (tgt := 70) dX6_weaveFrom_109 (by decide) ?_
        have hne9 : okT mi (fun k => mi (a + 1) k) (mi 1 11).toNat (mi a 1).toNat s (t) ≠ 0 := by rcases hq9 with q | q; (exact q.1); (have := q.2.1; omega)
        refine aw_sub (lv' := [(0, .ref 1), (1, .ref a), (2, iI T), (3, iI s), (4, iI W), (5, iI st9), (6, iI tot), (7, iI (t + 1))]) [0, 1, 2, 3, 4, 5, 6, 7] rfl ?_
        exact ih _ (t + 1) hf1 (fun u u0 u1 => by by_cases e9 : u = t; (rw [e9]; exact hne9); (exact h2 u u0 (by omega))) (by omega) (by omega)
      · have hsu : (plL (eC mi) (dC mi) (outL (fun k => mi (a + 1) k) (mi 1 11).toNat (t) s (mi a 1).toNat 0) (sL mi 8)).1 = 0 ∧ v84 = (((outL (fun k => mi (a + 1) k) (mi 1 11).toNat (t) s (mi a 1).toNat 0)).length : Int) ∧ ((plL (eC mi) (dC mi) (outL (fun k => mi (a + 1) k) (mi 1 11).toNat (t) s (mi a 1).toNat 0) (sL mi 8)).2).Perm (sL m1 13) ∧ sOk m1 13 := by rcases hq9 with q | q; (have q1 := q.1; have q2 := q.2; omega); (exact q)
        refine aw_aload_n (i := 0) (q := 0) dX6_weaveFrom_90 rfl rfl ?_
        refine aw_getR (r := 8) flX6_30 SH_1 (by decide) rfl (rk_1_3 hR) dX6_weaveFrom_91 ?_
        refine aw_aload_n (i := 0) (q := 0) dX6_weaveFrom_94 rfl rfl ?_
        refine aw_getR (r := 13) flX6_34 SH_1 (by decide) rfl (rk_1_4 hR) dX6_weaveFrom_95 ?_
        refine aw_cVv (As := [.ref 13]) (st := []) clX6_218 (s_X4_copyFrom (mi := m1) hR (Or.inl rfl) (Or.inr rfl) (by decide) hsu.2.2.2) SH_8 rfl (by decide) rfl rfl (Nat.le_of_ble_eq_true rfl) (by decide) (by decide) (Nat.le_refl _) (Nat.le_refl _) dX6_weaveFrom_98 (fun m2 hm2 => ?_)
        refine aw_iload (i := 7) (q := 7) dX6_weaveFrom_101 rfl ?_
        refine aw_iload_n (i := 2) (q := 2) dX6_weaveFrom_103 rfl rfl ?_
        refine aw_isub dX6_weaveFrom_104 ?_
        exact aw_iret ⟨_, rfl, rfl, rfl, ⟨fun x j hx => by rw [hm2.2.2.2 x j (by omega) (by omega) (by omega) (by omega)]; exact hf1 x j (by omega), hm2.2.1, Or.inr ⟨by omega, by unfold okT; rw [show T + (t - T) = t by omega]; exact hsu.1, fun v v0 v1 => h2 _ (by omega) (by omega), by rw [hm2.1, show T + (t - T) = t by omega]; exact hsu.2.2.1⟩⟩⟩ (Nat.le_refl _) (Nat.le_refl _) dX6_weaveFrom_105
theorem s_X6_weaveFrom {mr : aR} (hR : Rok mr) {mi : aM} {a : Nat} {T s W : Int} (hd : dP mi mr a 0 s) (ho : sOk mi 8) (hT : 0 ≤ T ∧ T ≤ 100000) (hW : 0 ≤ W ∧ W ≤ 500) : SPg yX6_weaveFrom cX6_weaveFrom 8 (some .int) 5 [.ref 1, .ref a, iI T, iI s, iI W] mi mr (Pi mr (fun r m => fr817 mi m ∧ sOk m 8 ∧ ((r = -1 ∧ (∀ v : Int, 0 ≤ v → v ≤ W → okT mi (fun k => mi (a + 1) k) (mi 1 11).toNat (mi a 1).toNat s (T + v) ≠ 0) ∧ sL m 8 = sL mi 8) ∨ ((0 ≤ r ∧ r ≤ W) ∧ okT mi (fun k => mi (a + 1) k) (mi 1 11).toNat (mi a 1).toNat s (T + r) = 0 ∧ (∀ v : Int, 0 ≤ v → v < r → okT mi (fun k => mi (a + 1) k) (mi 1 11).toNat (mi a 1).toNat s (T + v) ≠ 0) ∧ ((plL (eC mi) (dC mi) (outL (fun k => mi (a + 1) k) (mi 1 11).toNat (T + r) s (mi a 1).toNat 0) (sL mi 8)).2).Perm (sL m 8))))) := by
  refine SPg.int rfl (by decide +kernel) (Nat.le_of_ble_eq_true rfl) ?_
  show AWm RX6 cX6_weaveFrom 8 5 _ 0 [(0, .ref 1), (1, .ref a), (2, iI T), (3, iI s), (4, iI W)] [] mi mr
  have hn := hd.2.2.1.1
  have hnw := hd.2.2.1.2.1
  have hs := hd.2.2.2.2.2
  have hex := ex_set hn
  have hc1 := ho.1
  have htotl := fun T9 : Int => ptS_len (S := fun k => mi (a + 1) k) hn (n := (mi a 1).toNat) (fun k k0 k1 => hd.2.1.2 k k0 (by have := hd.2.1.1; omega)) T9 s
  refine aw_iload_n (i := 2) (q := 2) dX6_weaveFrom_0 rfl rfl ?_
  refine aw_aload_n (i := 0) (q := 0) dX6_weaveFrom_1 rfl rfl ?_
  refine aw_aload_n (i := 1) (q := 1) dX6_weaveFrom_2 rfl rfl ?_
  refine aw_iload_n (i := 3) (q := 3) dX6_weaveFrom_3 rfl rfl ?_
  refine aw_cVp (As := [.ref a, iI s]) (st := [iI T]) clX6_334 (s_X6_readyTime hR hd) SH_1 rfl (by decide) rfl rfl (Nat.le_of_ble_eq_true rfl) (by decide) (by decide) (Nat.le_refl _) (Nat.le_refl _) dX6_weaveFrom_4 (fun rt hrt => ?_)
  have hrt1 := hrt.1
  refine aw_mmax (x := T) (st := []) (by omega) (by omega) clX6_236 (Nat.le_of_ble_eq_true rfl) (by decide) (Nat.le_refl _) (Nat.le_refl _) dX6_weaveFrom_7 (fun m7 hm7 => ?_)
  refine aw_istore (i := 5) (lv' := [(0, .ref 1), (1, .ref a), (2, iI T), (3, iI s), (4, iI W), (5, iI m7)]) [1, 2, 3, 4, 5, 0] dX6_weaveFrom_10 (by decide) rfl ?_
  refine aw_aload_n (i := 1) (q := 1) dX6_weaveFrom_12 rfl rfl ?_
  refine aw_aload_n (i := 0) (q := 0) dX6_weaveFrom_13 rfl rfl ?_
  refine aw_cVp (As := []) (st := [.ref a]) clX6_208 (s_X6_existingBells hR hn) SH_1 rfl (by decide) rfl rfl (Nat.le_of_ble_eq_true rfl) (by decide) (by decide) (Nat.le_refl _) (Nat.le_refl _) dX6_weaveFrom_14 (fun ex hex9 => ?_)
  subst hex9
  refine aw_cVp (As := [iI (((2 ^ (mi 1 11).toNat : Nat) : Int) - 1)]) (st := []) clX6_211 (s_X2_strokesOf hR hd.1 hd.2.1 (by have := ex_set hn; omega)) hd.1.1 rfl hd.1.2.2.1 rfl rfl (Nat.le_of_ble_eq_true rfl) (by decide) (by decide) (Nat.le_refl _) (Nat.le_refl _) dX6_weaveFrom_17 (fun tot htot => ?_)
  have hr26 := ptS_rng (fun k => mi (a + 1) k) (((2 ^ (mi 1 11).toNat : Nat) : Int) - 1) (mi a 1).toNat
  rw [← htot] at hr26
  have hc26 := hd.2.1.1
  refine aw_istore (i := 6) (lv' := [(0, .ref 1), (1, .ref a), (2, iI T), (3, iI s), (4, iI W), (5, iI m7), (6, iI tot)]) [1, 2, 3, 4, 5, 6, 0] dX6_weaveFrom_20 (by decide) rfl ?_
  refine aw_iload (i := 5) (q := 5) dX6_weaveFrom_22 rfl ?_
  refine aw_iload_n (i := 2) (q := 2) dX6_weaveFrom_24 rfl rfl ?_
  refine aw_iload (i := 4) (q := 4) dX6_weaveFrom_25 rfl ?_
  refine aw_iadd dX6_weaveFrom_27 ?_
  refine aw_icmp_gt (tgt := 64) dX6_weaveFrom_28 (by decide) (by first | assumption | omega) (by first | assumption | omega) (fun c28 => ?_) (fun c28 => ?_)
  · refine aw_iconst dX6_weaveFrom_64 ?_
    exact aw_iret ⟨_, rfl, rfl, rfl, (fun _ _ _ => rfl), ho, Or.inl ⟨rfl, fun v v0 v1 => by first | exact (rdy_no hn.1 hrt (by omega) (by omega)) | exact (many_no (by have := sL_len ho; have := ho.1; omega) (by rw [htotl (T + v)] at htot; have := sL_len ho; omega)) | exact (by rcases hsw with ⟨-, k, b, q1, q2, q3, q4⟩ | q; (exact swi_no hn.1 q1 q2 q3 q4); (exact absurd q (by omega))) | exact (alone_no (by rcases hv58.1 with ⟨q, -⟩ | ⟨-, q⟩; (exact absurd q (by omega)); (exact q)) _ _), rfl⟩⟩ (Nat.le_refl _) (Nat.le_refl _) dX6_weaveFrom_65
  · refine aw_aload_n (i := 0) (q := 0) dX6_weaveFrom_31 rfl rfl ?_
    refine aw_getR (r := 8) flX6_30 SH_1 (by decide) rfl (rk_1_3 hR) dX6_weaveFrom_32 ?_
    refine aw_getIk (x := mi 8 4) 4 flX6_152 SH_8 (by decide) rfl rfl rfl dX6_weaveFrom_35 (fun r35 => ?_)
    refine aw_iload (i := 6) (q := 6) dX6_weaveFrom_38 rfl ?_
    refine aw_iadd dX6_weaveFrom_40 ?_
    refine aw_sipush (x := 300) dX6_weaveFrom_41 rfl ?_
    refine aw_icmp_gt (tgt := 64) dX6_weaveFrom_44 (by decide) (by first | assumption | omega) (by decide) (fun c44 => ?_) (fun c44 => ?_)
    · refine aw_iconst dX6_weaveFrom_64 ?_
      exact aw_iret ⟨_, rfl, rfl, rfl, (fun _ _ _ => rfl), ho, Or.inl ⟨rfl, fun v v0 v1 => by first | exact (rdy_no hn.1 hrt (by omega) (by omega)) | exact (many_no (by have := sL_len ho; have := ho.1; omega) (by rw [htotl (T + v)] at htot; have := sL_len ho; omega)) | exact (by rcases hsw with ⟨-, k, b, q1, q2, q3, q4⟩ | q; (exact swi_no hn.1 q1 q2 q3 q4); (exact absurd q (by omega))) | exact (alone_no (by rcases hv58.1 with ⟨q, -⟩ | ⟨-, q⟩; (exact absurd q (by omega)); (exact q)) _ _), rfl⟩⟩ (Nat.le_refl _) (Nat.le_refl _) dX6_weaveFrom_65
    · refine aw_aload_n (i := 0) (q := 0) dX6_weaveFrom_47 rfl rfl ?_
      refine aw_aload_n (i := 1) (q := 1) dX6_weaveFrom_48 rfl rfl ?_
      refine aw_cVp (As := [.ref a]) (st := []) clX6_338 (s_X6_swingsIn hR hd.1 hd.2.1 hn) SH_1 rfl (by decide) rfl rfl (Nat.le_of_ble_eq_true rfl) (by decide) (by decide) (Nat.le_refl _) (Nat.le_refl _) dX6_weaveFrom_49 (fun sw hsw => ?_)
      refine aw_if_ne (tgt := 64) dX6_weaveFrom_52 (by decide) (by first | assumption | omega) (fun c52 => ?_) (fun c52 => ?_)
      · refine aw_iconst dX6_weaveFrom_64 ?_
        exact aw_iret ⟨_, rfl, rfl, rfl, (fun _ _ _ => rfl), ho, Or.inl ⟨rfl, fun v v0 v1 => by first | exact (rdy_no hn.1 hrt (by omega) (by omega)) | exact (many_no (by have := sL_len ho; have := ho.1; omega) (by rw [htotl (T + v)] at htot; have := sL_len ho; omega)) | exact (by rcases hsw with ⟨-, k, b, q1, q2, q3, q4⟩ | q; (exact swi_no hn.1 q1 q2 q3 q4); (exact absurd q (by omega))) | exact (alone_no (by rcases hv58.1 with ⟨q, -⟩ | ⟨-, q⟩; (exact absurd q (by omega)); (exact q)) _ _), rfl⟩⟩ (Nat.le_refl _) (Nat.le_refl _) dX6_weaveFrom_65
      · refine aw_aload_n (i := 0) (q := 0) dX6_weaveFrom_55 rfl rfl ?_
        refine aw_aload_n (i := 1) (q := 1) dX6_weaveFrom_56 rfl rfl ?_
        refine aw_iload_n (i := 3) (q := 3) dX6_weaveFrom_57 rfl rfl ?_
        refine aw_cVi (As := [.ref a, iI s]) (st := []) clX6_226 (s_X6_fitsAlone hR hd) SH_1 rfl (by decide) rfl rfl (Nat.le_of_ble_eq_true rfl) (by decide) (by decide) (Nat.le_refl _) (Nat.le_refl _) dX6_weaveFrom_58 (fun v58 m1 hv58 => ?_)
        refine aw_if_ne (tgt := 66) dX6_weaveFrom_61 (by decide) (by first | assumption | omega) (fun c61 => ?_) (fun c61 => ?_)
        · refine aw_iload (i := 5) (q := 5) dX6_weaveFrom_66 rfl ?_
          refine aw_istore (i := 7) (lv' := [(0, .ref 1), (1, .ref a), (2, iI T), (3, iI s), (4, iI W), (5, iI m7), (6, iI tot), (7, iI m7)]) [1, 2, 3, 4, 5, 6, 7, 0] dX6_weaveFrom_68 (by decide) rfl ?_
          exact l_weave hR hd ho hT hW 400001 _ _ hv58.2 (fun u u0 u1 => rdy_no hn.1 hrt (by omega) (by omega)) (by omega) (by omega)
        · refine aw_iconst dX6_weaveFrom_64 ?_
          exact aw_iret ⟨_, rfl, rfl, rfl, (fun x j hx => hv58.2 x j (by omega)), fr13_ok hv58.2 ho, Or.inl ⟨rfl, fun v v0 v1 => by first | exact (rdy_no hn.1 hrt (by omega) (by omega)) | exact (many_no (by have := sL_len ho; have := ho.1; omega) (by rw [htotl (T + v)] at htot; have := sL_len ho; omega)) | exact (by rcases hsw with ⟨-, k, b, q1, q2, q3, q4⟩ | q; (exact swi_no hn.1 q1 q2 q3 q4); (exact absurd q (by omega))) | exact (alone_no (by rcases hv58.1 with ⟨q, -⟩ | ⟨-, q⟩; (exact absurd q (by omega)); (exact q)) _ _), fr13_sL hv58.2⟩⟩ (Nat.le_refl _) (Nat.le_refl _) dX6_weaveFrom_65
