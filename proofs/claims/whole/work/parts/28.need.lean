-- part 28: listMovingBells, movingBefore, powerNeeded (printed by wip/whole/gen/p28.py)
/-- the row of moving bells: the place k -/
def lmB (mi m : aM) (k : Int) : Prop := (0 ≤ m 27 k ∧ m 27 k < 4096) ∧ ∀ b : Int, 0 ≤ b → b < 12 → (bit (m 27 k) b ↔ b < mi 1 11 ∧ k ≤ mi (28 + b.toNat) 0)
def fr27 (mi m : aM) : Prop := ∀ (x : Nat) (j : Int), x ≠ 27 → m x j = mi x j
theorem cnK_rest {S d : Int → Int} {s x : Int} {NB i : Nat} : ∀ n : Nat, i ≤ n → (∀ k b : Nat, i ≤ k → k < n → b < NB → bit (S k) b → ¬ (k * s - d b ≤ x ∧ x < k * s)) → cnK S d s x NB n = cnK S d s x NB i
  | 0, h, _ => by rw [show i = 0 by omega]
  | n + 1, h, h2 => by
    by_cases e : i = n + 1
    · rw [e]
    · have h1 := cnK_rest (S := S) (d := d) (s := s) (x := x) (NB := NB) n (by omega) (fun k b q1 hk => h2 k b q1 (by omega))
      show cnK S d s x NB n + _ = _
      rw [h1, cnJ_0 NB (fun b hb => h2 n b (by omega) (by omega) hb)]
      exact Int.add_zero _
theorem l_list2 {mr : aR} (hR : Rok mr) {mi m : aM} (hn : 0 ≤ mi 1 11 ∧ mi 1 11 ≤ 12) (hfr : fr27 mi m) {z : Int} (hz : 1 ≤ z ∧ z ≤ 50) (hdn : ∀ k : Int, 1 ≤ k → k < z → lmB mi m k) (kx : ∀ m : aM, fr27 mi m → (∀ k : Int, 1 ≤ k → k ≤ z → lmB mi m k) → AWm RX6 cX6_listMovingBells 4 2 (Pv mr (fun m => fr27 mi m ∧ ∀ k : Int, 1 ≤ k → k ≤ 50 → lmB mi m k)) 2 [(0, .ref 1), (1, iI (z + 1))] [] m mr) : ∀ (n : Nat) (g y : Int), ((0 ≤ g ∧ g < 4096) ∧ ∀ b : Int, 0 ≤ b → b < 12 → (bit g b ↔ b < y ∧ z ≤ mi (28 + b.toNat) 0)) → (0 ≤ y ∧ y ≤ mi 1 11) → mi 1 11 - y < n → AWm RX6 cX6_listMovingBells 4 2 (Pv mr (fun m => fr27 mi m ∧ ∀ k : Int, 1 ≤ k → k ≤ 50 → lmB mi m k)) 12 [(0, .ref 1), (1, iI z), (2, iI g), (3, iI y)] [] m mr := by
  intro n
  induction n with
  | zero => intro g y hg h2 h3; omega
  | succ n ih =>
    intro g y hg h2 h3
    have f11 : m 1 11 = mi 1 11 := hfr 1 11 (by omega)
    have hgr9 := hg.1
    refine aw_iload_n (i := 3) (q := 3) dX6_listMovingBells_12 rfl rfl ?_
    refine aw_aload_n (i := 0) (q := 0) dX6_listMovingBells_13 rfl rfl ?_
    refine aw_getIk (x := m 1 11) 11 flX6_66 SH_1 (by decide) rfl rfl rfl dX6_listMovingBells_14 (fun r14 => ?_)
    refine aw_icmp_ge (tgt := 45) dX6_listMovingBells_17 (by decide) (by first | assumption | omega) (by first | assumption | omega) (fun c17 => ?_) (fun c17 => ?_)
    · refine aw_aload_n (i := 0) (q := 0) dX6_listMovingBells_45 rfl rfl ?_
      refine aw_getR (r := 27) flX6_63 SH_1 (by decide) rfl (rk_1_10 hR) dX6_listMovingBells_46 ?_
      refine aw_iload_n (i := 1) (q := 1) dX6_listMovingBells_49 rfl rfl ?_
      refine aw_iload_n (i := 2) (q := 2) dX6_listMovingBells_50 rfl rfl ?_
      refine aw_iast SH_27 (by decide) ⟨by omega, by omega⟩ (by first | assumption | omega) dX6_listMovingBells_51 ?_
      refine aw_sub (lv' := [(0, .ref 1), (1, iI z)]) [0, 1] rfl ?_
      refine aw_iinc (i := 1) (q := 1) (x := z) (lv' := [(0, .ref 1), (1, iI (z + 1))]) [1, 0] dX6_listMovingBells_52 rfl (by decide) rfl ?_
      refine aw_goto (tgt := 2) dX6_listMovingBells_55 (by decide) ?_
      refine kx _ (fun x j hx => by rw [aup_a hx]; exact hfr x j hx) (fun k k0 k1 => ?_)
      by_cases e9 : k = z
      · subst e9
        unfold lmB
        rw [aup_eq]
        exact ⟨hg.1, fun b b0 b1 => by rw [hg.2 b b0 b1, show y = mi 1 11 by omega]⟩
      · have h9 := hdn k k0 (by omega)
        unfold lmB at h9 ⊢
        rw [aup_k e9]
        exact h9
    · refine aw_aload_n (i := 0) (q := 0) dX6_listMovingBells_20 rfl rfl ?_
      refine aw_getR (r := 2) flX6_11 SH_1 (by decide) rfl (rk_1_0 hR) dX6_listMovingBells_21 ?_
      refine aw_iload_n (i := 3) (q := 3) dX6_listMovingBells_24 rfl rfl ?_
      refine aw_aald (r := 28 + (y).toNat) SH_2 (by decide) (by decide) ⟨by omega, by omega⟩ (hR.2.1 _ (by omega) (by omega)) dX6_listMovingBells_25 ?_
      have f28 : m (28 + y.toNat) 0 = mi (28 + y.toNat) 0 := hfr _ _ (by omega)
      have hpw := pow_rng (b := y) ⟨by omega, by omega⟩
      refine aw_getIk (x := m (28 + (y).toNat) 0) 0 flX6_91 (SH_bell ⟨by omega, by omega⟩) ⟨by omega, by omega⟩ rfl rfl rfl dX6_listMovingBells_26 (fun r26 => ?_)
      refine aw_iload_n (i := 1) (q := 1) dX6_listMovingBells_29 rfl rfl ?_
      refine aw_icmp_lt (tgt := 39) dX6_listMovingBells_30 (by decide) (by first | assumption | omega) (by first | assumption | omega) (fun c30 => ?_) (fun c30 => ?_)
      · refine aw_iinc (i := 3) (q := 3) (x := y) (lv' := [(0, .ref 1), (1, iI z), (2, iI g), (3, iI (y + 1))]) [1, 2, 3, 0] dX6_listMovingBells_39 rfl (by decide) rfl ?_
        refine aw_goto (tgt := 12) dX6_listMovingBells_42 (by decide) ?_
        exact ih _ (y + 1) ⟨hg.1, fun b b0 b1 => by rw [hg.2 b b0 b1]; constructor <;> intro q; (exact ⟨by omega, q.2⟩); (exact ⟨by (by_cases e9 : b = y; (subst e9; have := q.2; rw [f28] at *; omega); (omega)), q.2⟩)⟩ (by omega) (by omega)
      · refine aw_iload_n (i := 2) (q := 2) dX6_listMovingBells_33 rfl rfl ?_
        refine aw_iconst dX6_listMovingBells_34 ?_
        refine aw_iload_n (i := 3) (q := 3) dX6_listMovingBells_35 rfl rfl ?_
        refine aw_ishl (z := ((2 ^ (y).toNat : Nat) : Int)) dX6_listMovingBells_36 (bt_shl (by omega)) ?_
        have hor9 := or_rng (x := g) (y := ((2 ^ y.toNat : Nat) : Int)) hg.1 (by omega)
        refine aw_ior (z := (((g).toNat ||| (((2 ^ (y).toNat : Nat) : Int)).toNat : Nat) : Int)) dX6_listMovingBells_37 (bt_or (by omega) (by omega)) ?_
        refine aw_istore_n (i := 2) (lv' := [(0, .ref 1), (1, iI z), (2, iI ((((g).toNat ||| (((2 ^ (y).toNat : Nat) : Int)).toNat : Nat) : Int))), (3, iI y)]) [1, 2, 0, 3] dX6_listMovingBells_38 rfl (by decide) rfl ?_
        refine aw_iinc (i := 3) (q := 3) (x := y) (lv' := [(0, .ref 1), (1, iI z), (2, iI ((((g).toNat ||| (((2 ^ (y).toNat : Nat) : Int)).toNat : Nat) : Int))), (3, iI (y + 1))]) [1, 2, 3, 0] dX6_listMovingBells_39 rfl (by decide) rfl ?_
        refine aw_goto (tgt := 12) dX6_listMovingBells_42 (by decide) ?_
        exact ih _ (y + 1) ⟨by have := or_rng (x := g) (y := ((2 ^ y.toNat : Nat) : Int)) hg.1 (by have := pow_rng (b := y) ⟨by omega, by omega⟩; omega); omega, fun b b0 b1 => by rw [bit_or, hg.2 b b0 b1, bit_pow (by omega) b0]; constructor <;> intro q; (rcases q with q | q; (exact ⟨by omega, q.2⟩); (subst q; rw [f28] at *; exact ⟨by omega, by omega⟩)); (by_cases e9 : b = y; (exact Or.inr e9); (exact Or.inl ⟨by omega, q.2⟩))⟩ (by omega) (by omega)
theorem l_list1 {mr : aR} (hR : Rok mr) {mi : aM} (hn : 0 ≤ mi 1 11 ∧ mi 1 11 ≤ 12) : ∀ (n : Nat) (m : aM) (z : Int), fr27 mi m → (∀ k : Int, 1 ≤ k → k < z → lmB mi m k) → (1 ≤ z ∧ z ≤ 51) → 51 - z < n → AWm RX6 cX6_listMovingBells 4 2 (Pv mr (fun m => fr27 mi m ∧ ∀ k : Int, 1 ≤ k → k ≤ 50 → lmB mi m k)) 2 [(0, .ref 1), (1, iI z)] [] m mr := by
  intro n
  induction n with
  | zero => intro m z hfr hdn h2 h3; omega
  | succ n ih =>
    intro m z hfr hdn h2 h3
    refine aw_iload_n (i := 1) (q := 1) dX6_listMovingBells_2 rfl rfl ?_
    refine aw_bipush (x := 50) dX6_listMovingBells_3 rfl ?_
    refine aw_icmp_gt (tgt := 58) dX6_listMovingBells_5 (by decide) (by first | assumption | omega) (by decide) (fun c5 => ?_) (fun c5 => ?_)
    · exact aw_vret ⟨rfl, rfl, rfl, ⟨hfr, fun k k0 k1 => hdn k k0 (by omega)⟩⟩ (Nat.le_refl _) (Nat.le_refl _) dX6_listMovingBells_58
    · refine aw_iconst dX6_listMovingBells_8 ?_
      refine aw_istore_n (i := 2) (lv' := [(0, .ref 1), (1, iI z), (2, iI 0)]) [1, 2, 0] dX6_listMovingBells_9 rfl (by decide) rfl ?_
      refine aw_iconst dX6_listMovingBells_10 ?_
      refine aw_istore_n (i := 3) (lv' := [(0, .ref 1), (1, iI z), (2, iI 0), (3, iI 0)]) [1, 2, 3, 0] dX6_listMovingBells_11 rfl (by decide) rfl ?_
      exact l_list2 hR hn hfr (by omega) hdn (fun m h1 h2 => ih m (z + 1) h1 (fun k k0 k1 => h2 k k0 (by omega)) (by omega) (by omega)) ((mi 1 11).toNat + 1) 0 0 ⟨by omega, fun b b0 b1 => ⟨fun q => absurd q bit_0, fun q => by omega⟩⟩ (by omega) (by omega)
theorem s_X6_listMovingBells {mr : aR} (hR : Rok mr) {mi : aM} (hn : 0 ≤ mi 1 11 ∧ mi 1 11 ≤ 12) : SPg yX6_listMovingBells cX6_listMovingBells 4 none 2 [.ref 1] mi mr (Pv mr (fun m => fr27 mi m ∧ ∀ k : Int, 1 ≤ k → k ≤ 50 → lmB mi m k)) := by
  refine SPg.void rfl (by decide +kernel) (Nat.le_of_ble_eq_true rfl) ?_
  show AWm RX6 cX6_listMovingBells 4 2 _ 0 [(0, .ref 1)] [] mi mr
  refine aw_iconst dX6_listMovingBells_0 ?_
  refine aw_istore_n (i := 1) (lv' := [(0, .ref 1), (1, iI 1)]) [1, 0] dX6_listMovingBells_1 rfl (by decide) rfl ?_
  exact l_list1 hR hn 52 mi 1 (fun _ _ _ => rfl) (fun k k0 k1 => by omega) (by omega) (by omega)
theorem l_mb {mr : aR} (hR : Rok mr) {mi : aM} {a : Nat} {s f : Int} (hp : isP mr a) (hpo : pOk mi a) (hc : cB mi) (hs : 1 ≤ s ∧ s ≤ 200) (hf : 0 ≤ f ∧ f ≤ mi a 1) (hl : ∀ k : Int, 1 ≤ k → k ≤ 50 → lmB mi mi k) : ∀ (n : Nat) (g z : Int) (i : Nat), g = cnK (fun k => mi (a + 1) k) (dC mi) s (f * s - 1) (mi 1 11).toNat i → z = (i : Int) → (f ≤ z ∧ z ≤ mi a 1) → mi a 1 - z < n → AWm RX6 cX6_movingBefore 7 2 (Pp mi mr (fun r => r = cnK (fun k => mi (a + 1) k) (dC mi) s (f * s - 1) (mi 1 11).toNat (mi a 1).toNat)) 6 [(0, .ref 1), (1, .ref a), (2, iI s), (3, iI f), (4, iI g), (5, iI z)] [] mi mr := by
  intro n
  induction n with
  | zero => intro g z i hg hz h2 h3; omega
  | succ n ih =>
    intro g z i hg hz h2 h3
    have hn := hc.1
    have hp1 := hpo.1
    have hms := mul_lt (z := z - f) (s := s) (by omega) hs
    have hms1 := mul_lt (z := z) (s := s) (by omega) hs
    have hms2 := mul_lt (z := f) (s := s) (by omega) hs
    have hsub := Int.sub_mul z f s
    have hgr := cnK_rng (fun k => mi (a + 1) k) (dC mi) s (f * s - 1) (mi 1 11).toNat i
    have hgm : ((mi 1 11).toNat : Int) * (i : Int) ≤ 12 * 100 := Int.mul_le_mul (by omega) (by omega) (by omega) (by omega)
    refine aw_iload (i := 5) (q := 5) dX6_movingBefore_6 rfl ?_
    refine aw_aload_n (i := 1) (q := 1) dX6_movingBefore_8 rfl rfl ?_
    refine aw_getIk (x := mi a 1) 1 flX6_201 hp.1 hp.2.2.1 rfl rfl rfl dX6_movingBefore_9 (fun r9 => ?_)
    refine aw_icmp_ge (tgt := 64) dX6_movingBefore_12 (by decide) (by first | assumption | omega) (by first | assumption | omega) (fun c12 => ?_) (fun c12 => ?_)
    · refine aw_iload (i := 4) (q := 4) dX6_movingBefore_64 rfl ?_
      exact aw_iret ⟨_, rfl, rfl, rfl, rfl, (by rw [hg]; exact (cnK_rest (i := i) (mi a 1).toNat (by omega) (fun k b k0 k1 b0 hb q => by have hd9 := (hc.2.2 b (by omega)).1.1; have hm9 := mul_mono (s := s) (by omega) k0; have e9 : dC mi (b : Int) = mi (28 + b) 0 := rfl; rw [e9] at q; first | omega | (rw [hz] at *; omega))).symm)⟩ (Nat.le_refl _) (Nat.le_refl _) dX6_movingBefore_66
    · refine aw_iload (i := 5) (q := 5) dX6_movingBefore_15 rfl ?_
      refine aw_iload_n (i := 3) (q := 3) dX6_movingBefore_17 rfl rfl ?_
      refine aw_isub dX6_movingBefore_18 ?_
      refine aw_iload_n (i := 2) (q := 2) dX6_movingBefore_19 rfl rfl ?_
      refine aw_imul dX6_movingBefore_20 ?_
      refine aw_iconst dX6_movingBefore_21 ?_
      refine aw_iadd dX6_movingBefore_22 ?_
      refine aw_istore (i := 6) (lv' := [(0, .ref 1), (1, .ref a), (2, iI s), (3, iI f), (4, iI g), (5, iI z), (6, iI (((z - f) * s) + 1))]) [1, 2, 3, 4, 5, 6, 0] dX6_movingBefore_23 (by decide) rfl ?_
      refine aw_iload (i := 6) (q := 6) dX6_movingBefore_25 rfl ?_
      refine aw_bipush (x := 50) dX6_movingBefore_27 rfl ?_
      refine aw_icmp_le (tgt := 35) dX6_movingBefore_29 (by decide) (by first | assumption | omega) (by decide) (fun c29 => ?_) (fun c29 => ?_)
      · have hst9 := hpo.2 z (by omega) (by omega)
        have hlm9 := (hl ((z - f) * s + 1) (by omega) (by omega)).1
        refine aw_iload (i := 4) (q := 4) dX6_movingBefore_35 rfl ?_
        refine aw_aload_n (i := 1) (q := 1) dX6_movingBefore_37 rfl rfl ?_
        refine aw_getR (r := a + 1) flX6_193 hp.1 hp.2.2.1 rfl hp.2.2.2.2 dX6_movingBefore_38 ?_
        refine aw_iload (i := 5) (q := 5) dX6_movingBefore_41 rfl ?_
        refine aw_ialdv (x := mi (a + 1) z) hp.2.1 hp.2.2.2.1 ⟨by omega, by omega⟩ rfl dX6_movingBefore_43 (fun r43 => ?_)
        refine aw_aload_n (i := 0) (q := 0) dX6_movingBefore_44 rfl rfl ?_
        refine aw_getR (r := 27) flX6_63 SH_1 (by decide) rfl (rk_1_10 hR) dX6_movingBefore_45 ?_
        refine aw_iload (i := 6) (q := 6) dX6_movingBefore_48 rfl ?_
        refine aw_ialdv (x := mi 27 (((z - f) * s) + 1)) SH_27 (by decide) ⟨by omega, by omega⟩ rfl dX6_movingBefore_50 (fun r50 => ?_)
        refine aw_iand (z := (((mi (a + 1) z).toNat &&& (mi 27 (((z - f) * s) + 1)).toNat : Nat) : Int)) dX6_movingBefore_51 (bt_and (by omega) (by omega)) ?_
        refine aw_cSp (As := [iI ((((mi (a + 1) z).toNat &&& (mi 27 (((z - f) * s) + 1)).toNat : Nat) : Int))]) (st := [iI g]) clX6_342 (s_J6_bitCount_0f7a4 hR (and_rng hst9)) rfl rfl (Nat.le_of_ble_eq_true rfl) (by decide) (by decide) (Nat.le_refl _) (Nat.le_refl _) dX6_movingBefore_52 (fun v52 hv52 => ?_)
        rw [Int.toNat_natCast] at hv52
        have hpc := pc_cnJ (S := fun k => mi (a + 1) k) (d := dC mi) (s := s) (x := f * s - 1) (j := z) (mk := mi 27 ((z - f) * s + 1)) (NB := (mi 1 11).toNat) (by omega) (fun b b0 b1 => by have hb9 := (hl ((z - f) * s + 1) (by omega) (by omega)).2 b b0 b1; rw [hb9]; unfold dC; omega)
        have hcr := pcn_le ((mi (a + 1) z).toNat &&& (mi 27 ((z - f) * s + 1)).toNat)
        refine aw_iadd dX6_movingBefore_55 ?_
        refine aw_istore (i := 4) (lv' := [(0, .ref 1), (1, .ref a), (2, iI s), (3, iI f), (4, iI (g + v52)), (5, iI z), (6, iI (((z - f) * s) + 1))]) [1, 2, 3, 4, 0, 5, 6] dX6_movingBefore_56 (by decide) rfl ?_
        refine aw_iinc (i := 5) (q := 5) (x := z) (lv' := [(0, .ref 1), (1, .ref a), (2, iI s), (3, iI f), (4, iI (g + v52)), (5, iI (z + 1)), (6, iI (((z - f) * s) + 1))]) [1, 2, 3, 4, 5, 0, 6] dX6_movingBefore_58 rfl (by decide) rfl ?_
        refine aw_goto (tgt := 6) dX6_movingBefore_61 (by decide) ?_
        refine aw_sub (lv' := [(0, .ref 1), (1, .ref a), (2, iI s), (3, iI f), (4, iI (g + v52)), (5, iI (z + 1))]) [0, 1, 2, 3, 4, 5] rfl ?_
        exact ih (g + v52) (z + 1) (i + 1) (by show _ = cnK (fun k => mi (a + 1) k) (dC mi) s (f * s - 1) (mi 1 11).toNat i + cnJ _ _ _ _ (i : Int) _; rw [← hz, ← hpc, ← hg, hv52]) (by omega) (by omega) (by omega)
      · refine aw_iload (i := 4) (q := 4) dX6_movingBefore_32 rfl ?_
        exact aw_iret ⟨_, rfl, rfl, rfl, rfl, (by rw [hg]; exact (cnK_rest (i := i) (mi a 1).toNat (by omega) (fun k b k0 k1 b0 hb q => by have hd9 := (hc.2.2 b (by omega)).1.1; have hm9 := mul_mono (s := s) (by omega) k0; have e9 : dC mi (b : Int) = mi (28 + b) 0 := rfl; rw [e9] at q; first | omega | (rw [hz] at *; omega))).symm)⟩ (Nat.le_refl _) (Nat.le_refl _) dX6_movingBefore_34
theorem s_X6_movingBefore {mr : aR} (hR : Rok mr) {mi : aM} {a : Nat} {s f : Int} (hp : isP mr a) (hpo : pOk mi a) (hc : cB mi) (hs : 1 ≤ s ∧ s ≤ 200) (hf : 0 ≤ f ∧ f ≤ mi a 1) (hl : ∀ k : Int, 1 ≤ k → k ≤ 50 → lmB mi mi k) : SPg yX6_movingBefore cX6_movingBefore 7 (some .int) 2 [.ref 1, .ref a, iI s, iI f] mi mr (Pp mi mr (fun r => r = cnK (fun k => mi (a + 1) k) (dC mi) s (f * s - 1) (mi 1 11).toNat (mi a 1).toNat)) := by
  refine SPg.pure rfl (by decide +kernel) (Nat.le_of_ble_eq_true rfl) ?_
  show AWm RX6 cX6_movingBefore 7 2 _ 0 [(0, .ref 1), (1, .ref a), (2, iI s), (3, iI f)] [] mi mr
  have hp1 := hpo.1
  refine aw_iconst dX6_movingBefore_0 ?_
  refine aw_istore (i := 4) (lv' := [(0, .ref 1), (1, .ref a), (2, iI s), (3, iI f), (4, iI 0)]) [1, 2, 3, 4, 0] dX6_movingBefore_1 (by decide) rfl ?_
  refine aw_iload_n (i := 3) (q := 3) dX6_movingBefore_3 rfl rfl ?_
  refine aw_istore (i := 5) (lv' := [(0, .ref 1), (1, .ref a), (2, iI s), (3, iI f), (4, iI 0), (5, iI f)]) [1, 2, 3, 4, 5, 0] dX6_movingBefore_4 (by decide) rfl ?_
  exact l_mb hR hp hpo hc hs hf hl ((mi a 1).toNat + 1) 0 f f.toNat (by symm; exact cnK_0 _ (fun k b hk hb hbit q => by have hm9 := mul_mono (s := s) (by omega) (show k + 1 ≤ f.toNat by omega); rw [show ((k + 1 : Nat) : Int) = (k : Int) + 1 from rfl, Int.add_mul, Int.one_mul, Int.toNat_of_nonneg (by omega)] at hm9; omega)) (by omega) (by omega) (by omega)
theorem mx27 {mi m : aM} {w s r : Int} (hf : fr27 mi m) (h : mxE (fun x => cnK (fun k => m (40 + 2 * w.toNat + 1) k) (dC m) s x (m 1 11).toNat (m (40 + 2 * w.toNat) 1).toNat) s (m (40 + 2 * w.toNat) 1).toNat r) : mxE (fun x => cnK (fun k => mi (40 + 2 * w.toNat + 1) k) (dC mi) s x (mi 1 11).toNat (mi (40 + 2 * w.toNat) 1).toNat) s (mi (40 + 2 * w.toNat) 1).toNat r := by
  have e1 : (fun k => m (40 + 2 * w.toNat + 1) k) = fun k => mi (40 + 2 * w.toNat + 1) k := by funext k; exact hf _ _ (by omega)
  have e2 : dC m = dC mi := by funext b; by_cases q : 28 + b.toNat = 27; (omega); (exact hf _ _ q)
  rw [e1, e2, hf 1 11 (by decide), hf (40 + 2 * w.toNat) 1 (by omega)] at h
  exact h
theorem lm27 {mi m : aM} (hf : fr27 mi m) {k : Int} (h : lmB mi m k) : lmB m m k := by
  obtain ⟨h1, h2⟩ := h
  refine ⟨h1, fun b b0 b1 => ?_⟩
  rw [hf 1 11 (by decide), hf (28 + b.toNat) 0 (by omega)]
  exact h2 b b0 b1
theorem cB_fr {mi m : aM} (h : cB mi) (h11 : m 1 11 = mi 1 11) (h13 : m 1 13 = mi 1 13) (hb : ∀ (i : Nat) (j : Int), i < 12 → m (28 + i) j = mi (28 + i) j) : cB m := by
  obtain ⟨q1, q2, q3⟩ := h
  refine ⟨by rw [h11]; exact q1, by rw [h13]; exact q2, fun i hi => ?_⟩
  have hm : ∀ j : Int, m (28 + i) j = mi (28 + i) j := fun j => hb _ _ hi
  have := q3 i hi
  unfold bOk at *
  simp only [hm, h13]
  exact this
theorem l_need {mr : aR} (hR : Rok mr) {mi m : aM} (hfr : fr27 mi m) {w s : Int} (hw : 0 ≤ w ∧ w < 5) (hne : mi (40 + 2 * w.toNat) 1 ≠ 0) (hs : 1 ≤ s ∧ s ≤ 200) (hpo : pOk m (40 + 2 * w.toNat)) (hcm : cB m) (hl : ∀ k : Int, 1 ≤ k → k ≤ 50 → lmB m m k) : ∀ (n : Nat) (g z : Int) (i : Nat), ((g = 0 ∨ ∃ k : Nat, k < i ∧ g = cnK (fun k => m (40 + 2 * w.toNat + 1) k) (dC m) s (k * s - 1) (m 1 11).toNat (m (40 + 2 * w.toNat) 1).toNat) ∧ (0 ≤ g ∧ g ≤ 1200) ∧ ∀ k : Nat, k < i → cnK (fun k => m (40 + 2 * w.toNat + 1) k) (dC m) s (k * s - 1) (m 1 11).toNat (m (40 + 2 * w.toNat) 1).toNat ≤ g) → z = (i : Int) → (0 ≤ z ∧ z ≤ m (40 + 2 * w.toNat) 1) → m (40 + 2 * w.toNat) 1 - z < n → AWm RX6 cX6_powerNeeded 6 4 (Pi mr (fun r m => fr27 mi m ∧ ((¬ (0 ≤ w ∧ w < 5) ∧ r = -2) ∨ ((0 ≤ w ∧ w < 5) ∧ ((mi (40 + 2 * w.toNat) 1 = 0 ∧ r = -9) ∨ (mi (40 + 2 * w.toNat) 1 ≠ 0 ∧ ((¬ (1 ≤ s ∧ s ≤ 200) ∧ r = -3) ∨ ((1 ≤ s ∧ s ≤ 200) ∧ mxE (fun x => cnK (fun k => mi (40 + 2 * w.toNat + 1) k) (dC mi) s x (mi 1 11).toNat (mi (40 + 2 * w.toNat) 1).toNat) s (mi (40 + 2 * w.toNat) 1).toNat r)))))))) 51 [(0, .ref 1), (1, iI w), (2, iI s), (3, .ref (40 + 2 * (w).toNat)), (4, iI g), (5, iI z)] [] m mr := by
  intro n
  induction n with
  | zero => intro g z i hg hz h2 h3; omega
  | succ n ih =>
    intro g z i hg hz h2 h3
    have hp1 := hpo.1
    have hn := hcm.1
    have hg9 := hg.2.1
    refine aw_iload (i := 5) (q := 5) dX6_powerNeeded_51 rfl ?_
    refine aw_aload_n (i := 3) (q := 3) dX6_powerNeeded_53 rfl rfl ?_
    refine aw_getIk (x := m (40 + 2 * (w).toNat) 1) 1 flX6_201 (SH_pat ⟨by omega, by omega⟩).1 ⟨by omega, by omega⟩ rfl rfl rfl dX6_powerNeeded_54 (fun r54 => ?_)
    refine aw_icmp_ge (tgt := 81) dX6_powerNeeded_57 (by decide) (by first | assumption | omega) (by first | assumption | omega) (fun c57 => ?_) (fun c57 => ?_)
    · refine aw_iload (i := 4) (q := 4) dX6_powerNeeded_81 rfl ?_
      exact aw_iret ⟨_, rfl, rfl, rfl, hfr, Or.inr ⟨hw, Or.inr ⟨hne, Or.inr ⟨hs, mx27 hfr ⟨by have hi9 : i = (m (40 + 2 * w.toNat) 1).toNat := (by omega); rcases hg.1 with q | ⟨k, k1, k2⟩; (exact Or.inl q); (exact Or.inr ⟨k, by omega, k2⟩), hg.2.1.1, fun k hk => hg.2.2 k (by omega)⟩⟩⟩⟩⟩ (Nat.le_refl _) (Nat.le_refl _) dX6_powerNeeded_83
    · refine aw_iload (i := 4) (q := 4) dX6_powerNeeded_60 rfl ?_
      refine aw_aload_n (i := 0) (q := 0) dX6_powerNeeded_62 rfl rfl ?_
      refine aw_aload_n (i := 3) (q := 3) dX6_powerNeeded_63 rfl rfl ?_
      refine aw_iload_n (i := 2) (q := 2) dX6_powerNeeded_64 rfl rfl ?_
      refine aw_iload (i := 5) (q := 5) dX6_powerNeeded_65 rfl ?_
      refine aw_cVp (As := [.ref (40 + 2 * (w).toNat), iI s, iI z]) (st := [iI g]) clX6_233 (s_X6_movingBefore (mi := m) hR (isP_of hR ⟨by omega, by omega⟩) hpo hcm hs (by omega) hl) SH_1 rfl (by decide) rfl rfl (Nat.le_of_ble_eq_true rfl) (by decide) (by decide) (Nat.le_refl _) (Nat.le_refl _) dX6_powerNeeded_67 (fun v67 hv67 => ?_)
      have hgr := cnK_rng (fun k => m (40 + 2 * w.toNat + 1) k) (dC m) s (z * s - 1) (m 1 11).toNat (m (40 + 2 * w.toNat) 1).toNat
      have hgm : ((m 1 11).toNat : Int) * ((m (40 + 2 * w.toNat) 1).toNat : Int) ≤ 12 * 100 := Int.mul_le_mul (by omega) (by omega) (by omega) (by omega)
      refine aw_mmax (x := g) (st := []) (by omega) (by omega) clX6_236 (Nat.le_of_ble_eq_true rfl) (by decide) (Nat.le_refl _) (Nat.le_refl _) dX6_powerNeeded_70 (fun m70 hm70 => ?_)
      refine aw_istore (i := 4) (lv' := [(0, .ref 1), (1, iI w), (2, iI s), (3, .ref (40 + 2 * (w).toNat)), (4, iI m70), (5, iI z)]) [1, 2, 3, 4, 0, 5] dX6_powerNeeded_73 (by decide) rfl ?_
      refine aw_iinc (i := 5) (q := 5) (x := z) (lv' := [(0, .ref 1), (1, iI w), (2, iI s), (3, .ref (40 + 2 * (w).toNat)), (4, iI m70), (5, iI (z + 1))]) [1, 2, 3, 4, 5, 0] dX6_powerNeeded_75 rfl (by decide) rfl ?_
      refine aw_goto (tgt := 51) dX6_powerNeeded_78 (by decide) ?_
      exact ih _ _ (i + 1) ⟨by by_cases e9 : m70 = g; (rcases hg.1 with q | ⟨k, k1, k2⟩; (exact Or.inl (by omega)); (exact Or.inr ⟨k, by omega, by rw [e9]; exact k2⟩)); (exact Or.inr ⟨i, by omega, by rw [← hz, ← hv67]; omega⟩), by omega, fun k hk => by by_cases e9 : k = i; (subst e9; rw [← hz, ← hv67]; omega); (exact Int.le_trans (hg.2.2 k (by omega)) (by omega))⟩ (by omega) (by omega) (by omega)
theorem s_X6_powerNeeded {mr : aR} (hR : Rok mr) {mi : aM} {w s : Int} (h_w : -2147483648 ≤ w ∧ w ≤ 2147483647) (h_s : -2147483648 ≤ s ∧ s ≤ 2147483647) (hc : cB mi) (hp : ∀ x : Int, 0 ≤ x → x < 5 → pOk mi (40 + 2 * x.toNat)) : SPg yX6_powerNeeded cX6_powerNeeded 6 (some .int) 4 [.ref 1, iI w, iI s] mi mr (Pi mr (fun r m => fr27 mi m ∧ ((¬ (0 ≤ w ∧ w < 5) ∧ r = -2) ∨ ((0 ≤ w ∧ w < 5) ∧ ((mi (40 + 2 * w.toNat) 1 = 0 ∧ r = -9) ∨ (mi (40 + 2 * w.toNat) 1 ≠ 0 ∧ ((¬ (1 ≤ s ∧ s ≤ 200) ∧ r = -3) ∨ ((1 ≤ s ∧ s ≤ 200) ∧ mxE (fun x => cnK (fun k => mi (40 + 2 * w.toNat + 1) k) (dC mi) s x (mi 1 11).toNat (mi (40 + 2 * w.toNat) 1).toNat) s (mi (40 + 2 * w.toNat) 1).toNat r)))))))) := by
  refine SPg.int rfl (by decide +kernel) (Nat.le_of_ble_eq_true rfl) ?_
  show AWm RX6 cX6_powerNeeded 6 4 _ 0 [(0, .ref 1), (1, iI w), (2, iI s)] [] mi mr
  refine aw_iload_n (i := 1) (q := 1) dX6_powerNeeded_0 rfl rfl ?_
  refine aw_cSp (As := [iI w]) (st := []) clX6_181 (s_X6_isPattern hR (by omega)) rfl rfl (Nat.le_of_ble_eq_true rfl) (by decide) (by decide) (Nat.le_refl _) (Nat.le_refl _) dX6_powerNeeded_1 (fun v1 hv1 => ?_)
  refine aw_if_ne (tgt := 10) dX6_powerNeeded_4 (by decide) (by first | assumption | omega) (fun c4 => ?_) (fun c4 => ?_)
  · refine aw_aload_n (i := 0) (q := 0) dX6_powerNeeded_10 rfl rfl ?_
    refine aw_getR (r := 23) flX6_46 SH_1 (by decide) rfl (rk_1_6 hR) dX6_powerNeeded_11 ?_
    refine aw_iload_n (i := 1) (q := 1) dX6_powerNeeded_14 rfl rfl ?_
    refine aw_aald (r := 40 + 2 * (w).toNat) SH_23 (by decide) (by decide) ⟨by omega, by omega⟩ (hR.2.2 _ (by omega) (by omega)) dX6_powerNeeded_15 ?_
    refine aw_astore_n (i := 3) (lv' := [(0, .ref 1), (1, iI w), (2, iI s), (3, .ref (40 + 2 * (w).toNat))]) [1, 2, 3, 0] dX6_powerNeeded_16 rfl (by decide) rfl ?_
    refine aw_aload_n (i := 3) (q := 3) dX6_powerNeeded_17 rfl rfl ?_
    refine aw_cVp (As := []) (st := []) clX6_205 (s_X2_isMissing hR (SH_pat ⟨by omega, by omega⟩).1 ⟨by omega, by omega⟩) (SH_pat ⟨by omega, by omega⟩).1 rfl ⟨by omega, by omega⟩ rfl rfl (Nat.le_of_ble_eq_true rfl) (by decide) (by decide) (Nat.le_refl _) (Nat.le_refl _) dX6_powerNeeded_18 (fun v18 hv18 => ?_)
    refine aw_if_eq (tgt := 27) dX6_powerNeeded_21 (by decide) (by first | assumption | omega) (fun c21 => ?_) (fun c21 => ?_)
    · refine aw_iload_n (i := 2) (q := 2) dX6_powerNeeded_27 rfl rfl ?_
      refine aw_iconst dX6_powerNeeded_28 ?_
      refine aw_sipush (x := 200) dX6_powerNeeded_29 rfl ?_
      refine aw_cSp (As := [iI s, iI 1, iI 200]) (st := []) clX6_87 (s_X6_outside hR (by omega) (by omega) (by omega)) rfl rfl (Nat.le_of_ble_eq_true rfl) (by decide) (by decide) (Nat.le_refl _) (Nat.le_refl _) dX6_powerNeeded_32 (fun v32 hv32 => ?_)
      refine aw_if_eq (tgt := 41) dX6_powerNeeded_35 (by decide) (by first | assumption | omega) (fun c35 => ?_) (fun c35 => ?_)
      · refine aw_aload_n (i := 0) (q := 0) dX6_powerNeeded_41 rfl rfl ?_
        refine aw_cVv (As := []) (st := []) clX6_230 (s_X6_listMovingBells hR hc.1) SH_1 rfl (by decide) rfl rfl (Nat.le_of_ble_eq_true rfl) (by decide) (by decide) (Nat.le_refl _) (Nat.le_refl _) dX6_powerNeeded_42 (fun m1 hm1 => ?_)
        refine aw_iconst dX6_powerNeeded_45 ?_
        refine aw_istore (i := 4) (lv' := [(0, .ref 1), (1, iI w), (2, iI s), (3, .ref (40 + 2 * (w).toNat)), (4, iI 0)]) [1, 2, 3, 4, 0] dX6_powerNeeded_46 (by decide) rfl ?_
        refine aw_iconst dX6_powerNeeded_48 ?_
        refine aw_istore (i := 5) (lv' := [(0, .ref 1), (1, iI w), (2, iI s), (3, .ref (40 + 2 * (w).toNat)), (4, iI 0), (5, iI 0)]) [1, 2, 3, 4, 5, 0] dX6_powerNeeded_49 (by decide) rfl ?_
        have hpo9 : pOk m1 (40 + 2 * w.toNat) := by have h9 := hp w (by omega) (by omega); unfold pOk at *; simp only [hm1.1 (40 + 2 * w.toNat) _ (by omega), hm1.1 (40 + 2 * w.toNat + 1) _ (by omega)]; exact h9
        exact l_need hR hm1.1 ⟨by omega, by omega⟩ (by omega) ⟨by omega, by omega⟩ hpo9 (cB_fr hc (hm1.1 _ _ (by decide)) (hm1.1 _ _ (by decide)) (fun i j hi => hm1.1 _ _ (by omega))) (fun k k0 k1 => lm27 hm1.1 (hm1.2 k k0 k1)) ((m1 (40 + 2 * w.toNat) 1).toNat + 1) 0 0 0 ⟨Or.inl rfl, by omega, fun k hk => by omega⟩ rfl (by have := hpo9.1; omega) (by have := hpo9.1; omega)
      · refine aw_bipush (x := -3) dX6_powerNeeded_38 rfl ?_
        exact aw_iret ⟨_, rfl, rfl, rfl, (fun _ _ _ => rfl), Or.inr ⟨by omega, Or.inr ⟨by omega, Or.inl ⟨by omega, rfl⟩⟩⟩⟩ (Nat.le_refl _) (Nat.le_refl _) dX6_powerNeeded_40
    · refine aw_bipush (x := -9) dX6_powerNeeded_24 rfl ?_
      exact aw_iret ⟨_, rfl, rfl, rfl, (fun _ _ _ => rfl), Or.inr ⟨by omega, Or.inl ⟨by omega, rfl⟩⟩⟩ (Nat.le_refl _) (Nat.le_refl _) dX6_powerNeeded_26
  · refine aw_bipush (x := -2) dX6_powerNeeded_7 rfl ?_
    exact aw_iret ⟨_, rfl, rfl, rfl, (fun _ _ _ => rfl), Or.inl ⟨by omega, rfl⟩⟩ (Nat.le_refl _) (Nat.le_refl _) dX6_powerNeeded_9
