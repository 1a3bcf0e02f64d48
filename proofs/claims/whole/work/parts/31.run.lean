-- part 31: carryOut, runProgramme (printed by wip/whole/gen/p31.py)
/-- what is kept in an entry -/
def eOk (mi : aM) (e : Nat) : Prop := (0 ≤ mi e 0 ∧ mi e 0 < 5) ∧ (0 ≤ mi e 1 ∧ mi e 1 ≤ 100000) ∧ (mi e 2 = 0 ∨ (200 ≤ mi e 2 ∧ mi e 2 ≤ 50000)) ∧ (1 ≤ mi e 3 ∧ mi e 3 ≤ 200) ∧ (0 ≤ mi e 4 ∧ mi e 4 ≤ 500)
/-- a weave by an entry: the shift, or -1 -/
def wvR (mi m : aM) (w T s W v : Int) : Prop := (mi (40 + 2 * w.toNat) 1 = 0 ∧ v = -1 ∧ m = mi) ∨ (mi (40 + 2 * w.toNat) 1 ≠ 0 ∧ fr817 mi m ∧ sOk m 8 ∧ ((v = -1 ∧ (∀ u : Int, 0 ≤ u → u ≤ W → okT mi (fun k => mi (40 + 2 * w.toNat + 1) k) (mi 1 11).toNat (mi (40 + 2 * w.toNat) 1).toNat s (T + u) ≠ 0) ∧ sL m 8 = sL mi 8) ∨ ((0 ≤ v ∧ v ≤ W) ∧ okT mi (fun k => mi (40 + 2 * w.toNat + 1) k) (mi 1 11).toNat (mi (40 + 2 * w.toNat) 1).toNat s (T + v) = 0 ∧ (∀ u : Int, 0 ≤ u → u < v → okT mi (fun k => mi (40 + 2 * w.toNat + 1) k) (mi 1 11).toNat (mi (40 + 2 * w.toNat) 1).toNat s (T + u) ≠ 0) ∧ ((plL (eC mi) (dC mi) (outL (fun k => mi (40 + 2 * w.toNat + 1) k) (mi 1 11).toNat (T + v) s (mi (40 + 2 * w.toNat) 1).toNat 0) (sL mi 8)).2).Perm (sL m 8))))
noncomputable def coA (m : aM) (e : Nat) (v : Int) : aM := if v = -1 then aup (aup m e 5 v) 1 16 (m 1 16 + 1) else aup m e 5 v
/-- an entry is carried out: r = 1, it stays -/
def coR (mi : aM) (e : Nat) (r : Int) (m : aM) : Prop := ∃ (v : Int) (m1 : aM), wvR mi m1 (mi e 0) (mi e 1) (mi e 3) (mi e 4) v ∧ ((r = 0 ∧ (mi e 2 = 0 ∨ 100000 < mi e 1 + mi e 2) ∧ m = coA m1 e v) ∨ (r = 1 ∧ mi e 2 ≠ 0 ∧ mi e 1 + mi e 2 ≤ 100000 ∧ m = aup (coA m1 e v) e 1 (mi e 1 + mi e 2)))
theorem s_X6_carryOut {mr : aR} (hR : Rok mr) {mi : aM} {e : Nat} (he : 50 ≤ e ∧ e ≤ 57) (hek : eOk mi e) (hc : cB mi) (hpl : 1 ≤ mi 1 14 ∧ mi 1 14 ≤ 12) (ho : sOk mi 8) (hp : ∀ x : Int, 0 ≤ x → x < 5 → pOk mi (40 + 2 * x.toNat)) (hfl : 0 ≤ mi 1 16 ∧ mi 1 16 ≤ 2000000) : SPg yX6_carryOut cX6_carryOut 3 (some .boolean) 6 [.ref 1, .ref e] mi mr (Pi mr (fun r m => coR mi e r m)) := by
  refine SPg.bool rfl (by decide +kernel) (Nat.le_of_ble_eq_true rfl) (fun r m h => by (obtain ⟨v, m1, -, h | h⟩ := h <;> omega)) ?_
  show AWm RX6 cX6_carryOut 3 6 _ 0 [(0, .ref 1), (1, .ref e)] [] mi mr
  obtain ⟨h0, h1, h2, h3, h4⟩ := id hek
  refine aw_aload_n (i := 0) (q := 0) dX6_carryOut_0 rfl rfl ?_
  refine aw_getR (r := 23) flX6_46 SH_1 (by decide) rfl (rk_1_6 hR) dX6_carryOut_1 ?_
  refine aw_aload_n (i := 1) (q := 1) dX6_carryOut_4 rfl rfl ?_
  refine aw_getIk (x := mi e 0) 0 flX6_240 (SH_en he) (ee_rng he) rfl rfl rfl dX6_carryOut_5 (fun r5 => ?_)
  refine aw_aald (r := 40 + 2 * (mi e 0).toNat) SH_23 (by decide) (by decide) ⟨by omega, by omega⟩ (hR.2.2 _ (by omega) (by omega)) dX6_carryOut_8 ?_
  refine aw_astore_n (i := 2) (lv' := [(0, .ref 1), (1, .ref e), (2, .ref (40 + 2 * (mi e 0).toNat))]) [1, 2, 0] dX6_carryOut_9 rfl (by decide) rfl ?_
  refine aw_aload_n (i := 1) (q := 1) dX6_carryOut_10 rfl rfl ?_
  refine aw_aload_n (i := 2) (q := 2) dX6_carryOut_11 rfl rfl ?_
  refine aw_cVp (As := []) (st := [.ref e]) clX6_205 (s_X2_isMissing hR (SH_pat ⟨by omega, by omega⟩).1 ⟨by omega, by omega⟩) (SH_pat ⟨by omega, by omega⟩).1 rfl ⟨by omega, by omega⟩ rfl rfl (Nat.le_of_ble_eq_true rfl) (by decide) (by decide) (Nat.le_refl _) (Nat.le_refl _) dX6_carryOut_12 (fun v12 hv12 => ?_)
  refine aw_if_eq (tgt := 22) dX6_carryOut_15 (by decide) (by first | assumption | omega) (fun c15 => ?_) (fun c15 => ?_)
  · refine aw_aload_n (i := 0) (q := 0) dX6_carryOut_22 rfl rfl ?_
    refine aw_aload_n (i := 2) (q := 2) dX6_carryOut_23 rfl rfl ?_
    refine aw_aload_n (i := 1) (q := 1) dX6_carryOut_24 rfl rfl ?_
    refine aw_getIk (x := mi e 1) 1 flX6_243 (SH_en he) (ee_rng he) rfl rfl rfl dX6_carryOut_25 (fun r25 => ?_)
    refine aw_aload_n (i := 1) (q := 1) dX6_carryOut_28 rfl rfl ?_
    refine aw_getIk (x := mi e 3) 3 flX6_249 (SH_en he) (ee_rng he) rfl rfl rfl dX6_carryOut_29 (fun r29 => ?_)
    refine aw_aload_n (i := 1) (q := 1) dX6_carryOut_32 rfl rfl ?_
    refine aw_getIk (x := mi e 4) 4 flX6_252 (SH_en he) (ee_rng he) rfl rfl rfl dX6_carryOut_33 (fun r33 => ?_)
    refine aw_cVi (As := [.ref (40 + 2 * (mi e 0).toNat), iI (mi e 1), iI (mi e 3), iI (mi e 4)]) (st := [.ref e]) clX6_222 (s_X6_weaveFrom hR ⟨isP_of hR h0, hp _ h0.1 h0.2, hc, hpl, by omega, by omega⟩ ho (by omega) (by omega)) SH_1 rfl (by decide) rfl rfl (Nat.le_of_ble_eq_true rfl) (by decide) (by decide) (Nat.le_refl _) (Nat.le_refl _) dX6_carryOut_36 (fun v36 m1 hv36 => ?_)
    have hvr : -1 ≤ v36 ∧ v36 ≤ mi e 4 := by rcases hv36.2.2 with q | q; (have := q.1; omega); (have := q.1; omega)
    have g : ∀ j : Int, m1 e j = mi e j := fun j => hv36.1 _ _ (by omega)
    have g1 := g 1
    have g2 := g 2
    have gf : m1 1 16 = mi 1 16 := hv36.1 _ _ (by omega)
    refine aw_putIk 5 flX6_255 (SH_en he) (ee_rng he) rfl rfl rfl (by first | assumption | omega) dX6_carryOut_39 ?_
    refine aw_aload_n (i := 1) (q := 1) dX6_carryOut_42 rfl rfl ?_
    refine aw_getIk (x := v36) 5 flX6_255 (SH_en he) (ee_rng he) rfl rfl (by (rw [aup_eq]) <;> rfl) dX6_carryOut_43 (fun r43 => ?_)
    refine aw_iconst dX6_carryOut_46 ?_
    refine aw_icmp_ne (tgt := 60) dX6_carryOut_47 (by decide) (by first | assumption | omega) (by decide) (fun c47 => ?_) (fun c47 => ?_)
    · refine aw_aload_n (i := 1) (q := 1) dX6_carryOut_60 rfl rfl ?_
      refine aw_getIk (x := m1 e 2) 2 flX6_246 (SH_en he) (ee_rng he) rfl rfl (by (rw [aup_k (by decide)]) <;> rfl) dX6_carryOut_61 (fun r61 => ?_)
      refine aw_if_eq (tgt := 81) dX6_carryOut_64 (by decide) (by first | assumption | omega) (fun c64 => ?_) (fun c64 => ?_)
      · refine aw_iconst dX6_carryOut_81 ?_
        exact aw_iret ⟨_, rfl, rfl, rfl, v36, m1, Or.inr ⟨by omega, hv36⟩, Or.inl ⟨rfl, by omega, by unfold coA; first | rw [if_pos (by omega)] | rw [if_neg (by omega)]⟩⟩ (Nat.le_refl _) (Nat.le_refl _) dX6_carryOut_82
      · refine aw_aload_n (i := 1) (q := 1) dX6_carryOut_67 rfl rfl ?_
        refine aw_getIk (x := m1 e 1) 1 flX6_243 (SH_en he) (ee_rng he) rfl rfl (by (rw [aup_k (by decide)]) <;> rfl) dX6_carryOut_68 (fun r68 => ?_)
        refine aw_aload_n (i := 1) (q := 1) dX6_carryOut_71 rfl rfl ?_
        refine aw_getIk (x := m1 e 2) 2 flX6_246 (SH_en he) (ee_rng he) rfl rfl (by (rw [aup_k (by decide)]) <;> rfl) dX6_carryOut_72 (fun r72 => ?_)
        refine aw_iadd dX6_carryOut_75 ?_
        refine aw_ldc (x := 100000) coX6_107 rfl dX6_carryOut_76 ?_
        refine aw_icmp_le (tgt := 83) dX6_carryOut_78 (by decide) (by first | assumption | omega) (by decide) (fun c78 => ?_) (fun c78 => ?_)
        · refine aw_aload_n (i := 1) (q := 1) dX6_carryOut_83 rfl rfl ?_
          refine aw_dup dX6_carryOut_84 rfl ?_
          refine aw_getIk (x := m1 e 1) 1 flX6_243 (SH_en he) (ee_rng he) rfl rfl (by (rw [aup_k (by decide)]) <;> rfl) dX6_carryOut_85 (fun r85 => ?_)
          refine aw_aload_n (i := 1) (q := 1) dX6_carryOut_88 rfl rfl ?_
          refine aw_getIk (x := m1 e 2) 2 flX6_246 (SH_en he) (ee_rng he) rfl rfl (by (rw [aup_k (by decide)]) <;> rfl) dX6_carryOut_89 (fun r89 => ?_)
          refine aw_iadd dX6_carryOut_92 ?_
          refine aw_putIk 1 flX6_243 (SH_en he) (ee_rng he) rfl rfl rfl (by first | assumption | omega) dX6_carryOut_93 ?_
          refine aw_iconst dX6_carryOut_96 ?_
          exact aw_iret ⟨_, rfl, rfl, rfl, v36, m1, Or.inr ⟨by omega, hv36⟩, Or.inr ⟨rfl, by omega, by omega, by unfold coA; first | (rw [if_pos (by omega)]; try rw [g1, g2]) | (rw [if_neg (by omega)]; try rw [g1, g2])⟩⟩ (Nat.le_refl _) (Nat.le_refl _) dX6_carryOut_97
        · refine aw_iconst dX6_carryOut_81 ?_
          exact aw_iret ⟨_, rfl, rfl, rfl, v36, m1, Or.inr ⟨by omega, hv36⟩, Or.inl ⟨rfl, by omega, by unfold coA; first | rw [if_pos (by omega)] | rw [if_neg (by omega)]⟩⟩ (Nat.le_refl _) (Nat.le_refl _) dX6_carryOut_82
    · refine aw_aload_n (i := 0) (q := 0) dX6_carryOut_50 rfl rfl ?_
      refine aw_dup dX6_carryOut_51 rfl ?_
      refine aw_getIk (x := m1 1 16) 16 flX6_82 SH_1 (by decide) rfl rfl (by (rw [aup_k (by decide)]) <;> rfl) dX6_carryOut_52 (fun r52 => ?_)
      refine aw_iconst dX6_carryOut_55 ?_
      refine aw_iadd dX6_carryOut_56 ?_
      refine aw_putIk 16 flX6_82 SH_1 (by decide) rfl rfl rfl (by first | assumption | omega) dX6_carryOut_57 ?_
      refine aw_aload_n (i := 1) (q := 1) dX6_carryOut_60 rfl rfl ?_
      refine aw_getIk (x := m1 e 2) 2 flX6_246 (SH_en he) (ee_rng he) rfl rfl (by (rw [aup_k (by decide), aup_k (by decide)]) <;> rfl) dX6_carryOut_61 (fun r61 => ?_)
      refine aw_if_eq (tgt := 81) dX6_carryOut_64 (by decide) (by first | assumption | omega) (fun c64 => ?_) (fun c64 => ?_)
      · refine aw_iconst dX6_carryOut_81 ?_
        exact aw_iret ⟨_, rfl, rfl, rfl, v36, m1, Or.inr ⟨by omega, hv36⟩, Or.inl ⟨rfl, by omega, by unfold coA; first | rw [if_pos (by omega)] | rw [if_neg (by omega)]⟩⟩ (Nat.le_refl _) (Nat.le_refl _) dX6_carryOut_82
      · refine aw_aload_n (i := 1) (q := 1) dX6_carryOut_67 rfl rfl ?_
        refine aw_getIk (x := m1 e 1) 1 flX6_243 (SH_en he) (ee_rng he) rfl rfl (by (rw [aup_k (by decide), aup_k (by decide)]) <;> rfl) dX6_carryOut_68 (fun r68 => ?_)
        refine aw_aload_n (i := 1) (q := 1) dX6_carryOut_71 rfl rfl ?_
        refine aw_getIk (x := m1 e 2) 2 flX6_246 (SH_en he) (ee_rng he) rfl rfl (by (rw [aup_k (by decide), aup_k (by decide)]) <;> rfl) dX6_carryOut_72 (fun r72 => ?_)
        refine aw_iadd dX6_carryOut_75 ?_
        refine aw_ldc (x := 100000) coX6_107 rfl dX6_carryOut_76 ?_
        refine aw_icmp_le (tgt := 83) dX6_carryOut_78 (by decide) (by first | assumption | omega) (by decide) (fun c78 => ?_) (fun c78 => ?_)
        · refine aw_aload_n (i := 1) (q := 1) dX6_carryOut_83 rfl rfl ?_
          refine aw_dup dX6_carryOut_84 rfl ?_
          refine aw_getIk (x := m1 e 1) 1 flX6_243 (SH_en he) (ee_rng he) rfl rfl (by (rw [aup_k (by decide), aup_k (by decide)]) <;> rfl) dX6_carryOut_85 (fun r85 => ?_)
          refine aw_aload_n (i := 1) (q := 1) dX6_carryOut_88 rfl rfl ?_
          refine aw_getIk (x := m1 e 2) 2 flX6_246 (SH_en he) (ee_rng he) rfl rfl (by (rw [aup_k (by decide), aup_k (by decide)]) <;> rfl) dX6_carryOut_89 (fun r89 => ?_)
          refine aw_iadd dX6_carryOut_92 ?_
          refine aw_putIk 1 flX6_243 (SH_en he) (ee_rng he) rfl rfl rfl (by first | assumption | omega) dX6_carryOut_93 ?_
          refine aw_iconst dX6_carryOut_96 ?_
          exact aw_iret ⟨_, rfl, rfl, rfl, v36, m1, Or.inr ⟨by omega, hv36⟩, Or.inr ⟨rfl, by omega, by omega, by unfold coA; first | (rw [if_pos (by omega)]; try rw [g1, g2]) | (rw [if_neg (by omega)]; try rw [g1, g2])⟩⟩ (Nat.le_refl _) (Nat.le_refl _) dX6_carryOut_97
        · refine aw_iconst dX6_carryOut_81 ?_
          exact aw_iret ⟨_, rfl, rfl, rfl, v36, m1, Or.inr ⟨by omega, hv36⟩, Or.inl ⟨rfl, by omega, by unfold coA; first | rw [if_pos (by omega)] | rw [if_neg (by omega)]⟩⟩ (Nat.le_refl _) (Nat.le_refl _) dX6_carryOut_82
  · refine aw_iconst dX6_carryOut_18 ?_
    refine aw_goto (tgt := 39) dX6_carryOut_19 (by decide) ?_
    refine aw_putIk 5 flX6_255 (SH_en he) (ee_rng he) rfl rfl rfl (by decide) dX6_carryOut_39 ?_
    refine aw_aload_n (i := 1) (q := 1) dX6_carryOut_42 rfl rfl ?_
    refine aw_getIk (x := -1) 5 flX6_255 (SH_en he) (ee_rng he) rfl rfl (by (rw [aup_eq]) <;> rfl) dX6_carryOut_43 (fun r43 => ?_)
    refine aw_iconst dX6_carryOut_46 ?_
    refine aw_icmp_ne (tgt := 60) dX6_carryOut_47 (by decide) (by decide) (by decide) (fun c47 => ?_) (fun c47 => ?_)
    · exact absurd c47 (by decide)
    · refine aw_aload_n (i := 0) (q := 0) dX6_carryOut_50 rfl rfl ?_
      refine aw_dup dX6_carryOut_51 rfl ?_
      refine aw_getIk (x := mi 1 16) 16 flX6_82 SH_1 (by decide) rfl rfl (by (rw [aup_k (by decide)]) <;> rfl) dX6_carryOut_52 (fun r52 => ?_)
      refine aw_iconst dX6_carryOut_55 ?_
      refine aw_iadd dX6_carryOut_56 ?_
      refine aw_putIk 16 flX6_82 SH_1 (by decide) rfl rfl rfl (by first | assumption | omega) dX6_carryOut_57 ?_
      refine aw_aload_n (i := 1) (q := 1) dX6_carryOut_60 rfl rfl ?_
      refine aw_getIk (x := mi e 2) 2 flX6_246 (SH_en he) (ee_rng he) rfl rfl (by (rw [aup_k (by decide), aup_k (by decide)]) <;> rfl) dX6_carryOut_61 (fun r61 => ?_)
      refine aw_if_eq (tgt := 81) dX6_carryOut_64 (by decide) (by first | assumption | omega) (fun c64 => ?_) (fun c64 => ?_)
      · refine aw_iconst dX6_carryOut_81 ?_
        exact aw_iret ⟨_, rfl, rfl, rfl, -1, mi, Or.inl ⟨by omega, rfl, rfl⟩, Or.inl ⟨rfl, by omega, by unfold coA; first | rw [if_pos (by omega)] | rw [if_neg (by omega)]⟩⟩ (Nat.le_refl _) (Nat.le_refl _) dX6_carryOut_82
      · refine aw_aload_n (i := 1) (q := 1) dX6_carryOut_67 rfl rfl ?_
        refine aw_getIk (x := mi e 1) 1 flX6_243 (SH_en he) (ee_rng he) rfl rfl (by (rw [aup_k (by decide), aup_k (by decide)]) <;> rfl) dX6_carryOut_68 (fun r68 => ?_)
        refine aw_aload_n (i := 1) (q := 1) dX6_carryOut_71 rfl rfl ?_
        refine aw_getIk (x := mi e 2) 2 flX6_246 (SH_en he) (ee_rng he) rfl rfl (by (rw [aup_k (by decide), aup_k (by decide)]) <;> rfl) dX6_carryOut_72 (fun r72 => ?_)
        refine aw_iadd dX6_carryOut_75 ?_
        refine aw_ldc (x := 100000) coX6_107 rfl dX6_carryOut_76 ?_
        refine aw_icmp_le (tgt := 83) dX6_carryOut_78 (by decide) (by first | assumption | omega) (by decide) (fun c78 => ?_) (fun c78 => ?_)
        · refine aw_aload_n (i := 1) (q := 1) dX6_carryOut_83 rfl rfl ?_
          refine aw_dup dX6_carryOut_84 rfl ?_
          refine aw_getIk (x := mi e 1) 1 flX6_243 (SH_en he) (ee_rng he) rfl rfl (by (rw [aup_k (by decide), aup_k (by decide)]) <;> rfl) dX6_carryOut_85 (fun r85 => ?_)
          refine aw_aload_n (i := 1) (q := 1) dX6_carryOut_88 rfl rfl ?_
          refine aw_getIk (x := mi e 2) 2 flX6_246 (SH_en he) (ee_rng he) rfl rfl (by (rw [aup_k (by decide), aup_k (by decide)]) <;> rfl) dX6_carryOut_89 (fun r89 => ?_)
          refine aw_iadd dX6_carryOut_92 ?_
          refine aw_putIk 1 flX6_243 (SH_en he) (ee_rng he) rfl rfl rfl (by first | assumption | omega) dX6_carryOut_93 ?_
          refine aw_iconst dX6_carryOut_96 ?_
          exact aw_iret ⟨_, rfl, rfl, rfl, -1, mi, Or.inl ⟨by omega, rfl, rfl⟩, Or.inr ⟨rfl, by omega, by omega, by unfold coA; first | (rw [if_pos (by omega)]; try rw [g1, g2]) | (rw [if_neg (by omega)]; try rw [g1, g2])⟩⟩ (Nat.le_refl _) (Nat.le_refl _) dX6_carryOut_97
        · refine aw_iconst dX6_carryOut_81 ?_
          exact aw_iret ⟨_, rfl, rfl, rfl, -1, mi, Or.inl ⟨by omega, rfl, rfl⟩, Or.inl ⟨rfl, by omega, by unfold coA; first | rw [if_pos (by omega)] | rw [if_neg (by omega)]⟩⟩ (Nat.le_refl _) (Nat.le_refl _) dX6_carryOut_82
theorem coA_fr {m : aM} {e : Nat} {v : Int} {x : Nat} {j : Int} (h1 : x ≠ 1 ∨ j ≠ 16) (h2 : x ≠ e ∨ j ≠ 5) : coA m e v x j = m x j := by
  have k1 : aup m e 5 v x j = m x j := by rcases h2 with h | h; (exact aup_a h); (exact aup_k h)
  unfold coA
  split
  · rcases h1 with h | h
    · rw [aup_a h]; exact k1
    · rw [aup_k h]; exact k1
  · exact k1
theorem coA_16 {m : aM} {e : Nat} {v : Int} (he : e ≠ 1) : coA m e v 1 16 = if v = -1 then m 1 16 + 1 else m 1 16 := by
  unfold coA
  split
  · rw [aup_eq]
  · rw [aup_a (Ne.symm he)]
theorem coA_5 {m : aM} {e : Nat} {v : Int} (he : e ≠ 1) : coA m e v e 5 = v := by
  unfold coA
  split
  · rw [aup_a he, aup_eq]
  · rw [aup_eq]
theorem wvR_fr {mi m : aM} {w T s W v : Int} (ho : sOk mi 8) (h : wvR mi m w T s W v) : fr817 mi m ∧ sOk m 8 := by
  rcases h with ⟨-, -, rfl⟩ | ⟨-, h1, h2, -⟩
  · exact ⟨fun _ _ _ => rfl, ho⟩
  · exact ⟨h1, h2⟩
theorem coR_fr {mi m : aM} {e : Nat} {r : Int} (ho : sOk mi 8) (he : 50 ≤ e ∧ e ≤ 57) (h : coR mi e r m) : (∀ (x : Nat) (j : Int), (x < 8 ∨ 17 < x) → (x ≠ 1 ∨ j ≠ 16) → (x ≠ e ∨ (j ≠ 5 ∧ j ≠ 1)) → m x j = mi x j) ∧ sOk m 8 ∧ (mi 1 16 ≤ m 1 16 ∧ m 1 16 ≤ mi 1 16 + 1) ∧ ((r = 0 ∧ m e 1 = mi e 1) ∨ (r = 1 ∧ mi e 2 ≠ 0 ∧ mi e 1 + mi e 2 ≤ 100000 ∧ m e 1 = mi e 1 + mi e 2)) := by
  obtain ⟨v, m1, h1, h2⟩ := h
  obtain ⟨f, o⟩ := wvR_fr ho h1
  have f16 : m1 1 16 = mi 1 16 := f _ _ (by omega)
  have oc : ∀ {m2 : aM}, (∀ (x : Nat) (j : Int), 8 ≤ x → x ≤ 17 → m2 x j = m1 x j) → sOk m2 8 := fun hm => sOk_congr (fun j => ⟨hm _ _ (by omega) (by omega), hm _ _ (by omega) (by omega), hm _ _ (by omega) (by omega)⟩) (hm _ _ (by omega) (by omega)) o
  have k16 := coA_16 (m := m1) (e := e) (v := v) (by omega)
  rcases h2 with ⟨rfl, -, rfl⟩ | ⟨rfl, p1, p2, rfl⟩
  · refine ⟨fun x j a b c => ?_, oc (fun x j a b => coA_fr (by omega) (by omega)), ?_, Or.inl ⟨rfl, ?_⟩⟩
    · rw [coA_fr b (by omega)]; exact f _ _ a
    · rw [k16, f16]; split <;> omega
    · rw [coA_fr (by omega) (by omega)]; exact f _ _ (by omega)
  · refine ⟨fun x j a b c => ?_, oc (fun x j a b => by rw [aup_a (by omega)]; exact coA_fr (by omega) (by omega)), ?_, Or.inr ⟨rfl, p1, p2, ?_⟩⟩
    · by_cases q : x = e
      · rw [aup_k (by omega), coA_fr b (by omega)]; exact f _ _ a
      · rw [aup_a q, coA_fr b (by omega)]; exact f _ _ a
    · rw [aup_a (by omega), k16, f16]; split <;> omega
    · rw [aup_eq]
/-- what the programme keeps -/
def pgI (m : aM) (E : Int → Nat) : Prop := cB m ∧ (1 ≤ m 1 14 ∧ m 1 14 ≤ 12) ∧ sOk m 8 ∧ (∀ x : Int, 0 ≤ x → x < 5 → pOk m (40 + 2 * x.toNat)) ∧ (0 ≤ m 1 12 ∧ m 1 12 ≤ 8) ∧ ∀ j : Int, 0 ≤ j → j < m 1 12 → eOk m (E j)
theorem pOk_fr {mi m : aM} {a : Nat} (h : ∀ j : Int, m a j = mi a j) (h2 : ∀ j : Int, m (a + 1) j = mi (a + 1) j) (ho : pOk mi a) : pOk m a := by
  unfold pOk at *
  simp only [h, h2]
  exact ho
theorem pgI_fr {mi m : aM} {E F : Int → Nat} (h : pgI mi E) (f : ∀ (x : Nat) (j : Int), (x < 8 ∨ (17 < x ∧ x < 50)) → (x ≠ 1 ∨ (j ≠ 12 ∧ j ≠ 16)) → m x j = mi x j) (ho : sOk m 8) (h12 : 0 ≤ m 1 12 ∧ m 1 12 ≤ 8) (he : ∀ j : Int, 0 ≤ j → j < m 1 12 → eOk m (F j)) : pgI m F := by
  obtain ⟨a1, a2, a3, a4, a5, a6⟩ := h
  refine ⟨cB_fr a1 (f 1 11 (by omega) (by omega)) (f 1 13 (by omega) (by omega)) (fun i j hi => f _ _ (by omega) (by omega)), by rw [f 1 14 (by omega) (by omega)]; exact a2, ho, fun x x0 x1 => pOk_fr (fun j => f _ _ (by omega) (by omega)) (fun j => f _ _ (by omega) (by omega)) (a4 x x0 x1), h12, he⟩
theorem pgI_co {mi m : aM} {mr : aR} {E : Int → Nat} {i r : Int} (hen : enI mr E) (h : pgI mi E) (hi : 0 ≤ i ∧ i < mi 1 12) (hc : coR mi (E i) r m) : pgI m E ∧ m 1 12 = mi 1 12 := by
  have he := (hen.1 i hi.1 (by have := h.2.2.2.2.1; omega)).2
  obtain ⟨f, o, k16, k1⟩ := coR_fr h.2.2.1 he hc
  have f12 : m 1 12 = mi 1 12 := f _ _ (by omega) (by omega) (by omega)
  refine ⟨pgI_fr h (fun x j a b => f _ _ (by omega) (by omega) (by omega)) o (by rw [f12]; exact h.2.2.2.2.1) (fun j j0 j1 => ?_), f12⟩
  have k := h.2.2.2.2.2 j j0 (by omega)
  have ej := (hen.1 j j0 (by have := h.2.2.2.2.1; omega)).2
  by_cases q : E j = E i
  · rw [q] at k ⊢
    unfold eOk at *
    rw [f (E i) 0 (by omega) (by omega) (by omega), f (E i) 2 (by omega) (by omega) (by omega), f (E i) 3 (by omega) (by omega) (by omega), f (E i) 4 (by omega) (by omega) (by omega)]
    refine ⟨k.1, ?_, k.2.2⟩
    rcases k1 with ⟨-, e1⟩ | ⟨-, p1, p2, e1⟩
    · rw [e1]; exact k.2.1
    · rw [e1]; omega
  · unfold eOk at *
    rw [f (E j) 0 (by omega) (by omega) (by omega), f (E j) 1 (by omega) (by omega) (by omega), f (E j) 2 (by omega) (by omega) (by omega), f (E j) 3 (by omega) (by omega) (by omega), f (E j) 4 (by omega) (by omega) (by omega)]
    exact k
theorem pgI_drop {mi : aM} {mr : aR} {E : Int → Nat} {i : Int} (hen : enI mr E) (h : pgI mi E) (hi : 0 ≤ i ∧ i < mi 1 12) : pgI (aup mi 1 12 (mi 1 12 - 1)) (edr i (mi 1 12) E) := by
  have h5 := h.2.2.2.2.1
  refine pgI_fr h (fun x j a b => by by_cases q : x = 1; (rw [aup_k (by omega)]); (rw [aup_a q])) (sOk_congr (fun j => ⟨aup_a (by omega), aup_a (by omega), aup_a (by omega)⟩) (aup_a (by omega)) h.2.2.1) (by rw [aup_eq]; omega) (fun j j0 j1 => ?_)
  rw [aup_eq] at j1
  have e9 : edr i (mi 1 12) E j = E (edx i (mi 1 12) j) := edr_ix _ _ _ _
  have e8 : 0 ≤ edx i (mi 1 12) j ∧ edx i (mi 1 12) j < mi 1 12 := by unfold edx; split; (omega); (split <;> omega)
  rw [e9]
  have k := h.2.2.2.2.2 _ e8.1 e8.2
  have ej := (hen.1 _ e8.1 (by omega)).2
  unfold eOk at *
  simp only [aup_a (m := mi) (a := 1) (k := 12) (v := mi 1 12 - 1) (x := E (edx i (mi 1 12) j)) (by omega)]
  exact k
/-- the programme's look at the entries: k are left, the next is at i -/
def prC : Nat → Int → aM → (Int → Nat) → aM → (Int → Nat) → Prop
  | 0, _, m, E, m', E' => m' = m ∧ E' = E
  | k + 1, i, m, E, m', E' => (m 1 13 + 100 < m (E i) 1 ∧ prC k (i + 1) m E m' E') ∨ (¬ m 1 13 + 100 < m (E i) 1 ∧ ∃ m1, coR m (E i) 1 m1 ∧ prC k (i + 1) m1 E m' E') ∨ (¬ m 1 13 + 100 < m (E i) 1 ∧ ∃ m1, coR m (E i) 0 m1 ∧ prC k i (aup m1 1 12 (m1 1 12 - 1)) (edr i (m1 1 12) E) m' E')
theorem l_prog {mr0 : aR} (hR0 : Rok mr0) {mi : aM} {E0 : Int → Nat} : ∀ (n : Nat) (r : aR) (m : aM) (E : Int → Nat) (i z : Int), enI r E → fr24 mr0 r → pgI m E → (0 ≤ i ∧ 0 ≤ z ∧ i + z = m 1 12) → (0 ≤ m 1 16 ∧ m 1 16 + z ≤ 900000) → (∀ (m' : aM) (E' : Int → Nat), prC z.toNat i m E m' E' → prC (mi 1 12).toNat 0 mi E0 m' E') → z < n → AWm RX6 cX6_runProgramme 3 7 (Pgv (fun m r => ∃ E : Int → Nat, prC (mi 1 12).toNat 0 mi E0 m E ∧ enI r E ∧ fr24 mr0 r ∧ pgI m E)) 7 [(0, .ref 1), (1, iI i), (2, iI z)] [] m r := by
  intro n
  induction n with
  | zero => intro r m E i z h1 hf h2 h3 h4 h5 h6; omega
  | succ n ih =>
    intro r m E i z h1 hf h2 h3 h4 h5 h6
    have hR := Rok_fr hR0 hf
    obtain ⟨k1, k2, k3, k4, k5, k6⟩ := id h2
    have hnw := k1.2.1
    refine aw_iload_n (i := 2) (q := 2) dX6_runProgramme_7 rfl rfl ?_
    refine aw_if_le (tgt := 60) dX6_runProgramme_8 (by decide) (by first | assumption | omega) (fun c8 => ?_) (fun c8 => ?_)
    · exact aw_vret ⟨rfl, rfl, E, h5 m E (by rw [show z.toNat = 0 by omega]; exact ⟨rfl, rfl⟩), h1, hf, h2⟩ (Nat.le_refl _) (Nat.le_refl _) dX6_runProgramme_60
    · have he := (h1.1 i (by omega) (by omega)).2
      have hk9 := k6 i (by omega) (by omega)
      refine aw_aload_n (i := 0) (q := 0) dX6_runProgramme_11 rfl rfl ?_
      refine aw_getR (r := 24) flX6_52 SH_1 (by decide) rfl (rk_1_7 hR) dX6_runProgramme_12 ?_
      refine aw_iload_n (i := 1) (q := 1) dX6_runProgramme_15 rfl rfl ?_
      refine aw_aald (r := E i) SH_24 (by decide) (by decide) ⟨by omega, by omega⟩ (h1.1 i (by omega) (by omega)).1 dX6_runProgramme_16 ?_
      refine aw_getIk (x := m (E i) 1) 1 flX6_243 (SH_en he) (ee_rng he) rfl rfl rfl dX6_runProgramme_17 (fun r17 => ?_)
      refine aw_aload_n (i := 0) (q := 0) dX6_runProgramme_20 rfl rfl ?_
      refine aw_getIk (x := m 1 13) 13 flX6_73 SH_1 (by decide) rfl rfl rfl dX6_runProgramme_21 (fun r21 => ?_)
      refine aw_bipush (x := 100) dX6_runProgramme_24 rfl ?_
      refine aw_iadd dX6_runProgramme_26 ?_
      refine aw_icmp_gt (tgt := 43) dX6_runProgramme_27 (by decide) (by first | assumption | omega) (by first | assumption | omega) (fun c27 => ?_) (fun c27 => ?_)
      · refine aw_iinc (i := 1) (q := 1) (x := i) (lv' := [(0, .ref 1), (1, iI (i + 1)), (2, iI z)]) [1, 0, 2] dX6_runProgramme_43 rfl (by decide) rfl ?_
        refine aw_goto (tgt := 54) dX6_runProgramme_46 (by decide) ?_
        refine aw_iinc (i := 2) (q := 2) (x := z) (lv' := [(0, .ref 1), (1, iI (i + 1)), (2, iI (z + -1))]) [1, 2, 0] dX6_runProgramme_54 rfl (by decide) rfl ?_
        refine aw_goto (tgt := 7) dX6_runProgramme_57 (by decide) ?_
        exact ih _ m E (i + 1) (z - 1) h1 hf h2 (by omega) (by omega) (fun m' E' h => h5 m' E' (by have e9 : z.toNat = (z - 1).toNat + 1 := (by omega); rw [e9]; exact Or.inl ⟨by omega, h⟩)) (by omega)
      · refine aw_aload_n (i := 0) (q := 0) dX6_runProgramme_30 rfl rfl ?_
        refine aw_aload_n (i := 0) (q := 0) dX6_runProgramme_31 rfl rfl ?_
        refine aw_getR (r := 24) flX6_52 SH_1 (by decide) rfl (rk_1_7 hR) dX6_runProgramme_32 ?_
        refine aw_iload_n (i := 1) (q := 1) dX6_runProgramme_35 rfl rfl ?_
        refine aw_aald (r := E i) SH_24 (by decide) (by decide) ⟨by omega, by omega⟩ (h1.1 i (by omega) (by omega)).1 dX6_runProgramme_36 ?_
        refine aw_cVi (As := [.ref (E i)]) (st := []) clX6_319 (s_X6_carryOut hR he hk9 k1 k2 k3 k4 (by omega)) SH_1 rfl (by decide) rfl rfl (Nat.le_of_ble_eq_true rfl) (by decide) (by decide) (Nat.le_refl _) (Nat.le_refl _) dX6_runProgramme_37 (fun v37 m1 hv37 => ?_)
        have hpc := pgI_co h1 h2 ⟨by omega, by omega⟩ hv37
        have hcf := (coR_fr k3 he hv37).2.2.1
        have hk8 := hpc.1.2.2.2.2.1
        have h01 : v37 = 0 ∨ v37 = 1 := by obtain ⟨v, m9, -, q | q⟩ := hv37; (exact Or.inl q.1); (exact Or.inr q.1)
        refine aw_if_eq (tgt := 49) dX6_runProgramme_40 (by decide) (by first | assumption | omega) (fun c40 => ?_) (fun c40 => ?_)
        · refine aw_aload_n (i := 0) (q := 0) dX6_runProgramme_49 rfl rfl ?_
          refine aw_iload_n (i := 1) (q := 1) dX6_runProgramme_50 rfl rfl ?_
          refine aw_cVw (As := [iI i]) (st := []) clX6_261 (s_X6_dropEntry (mi := m1) hR h1 ⟨by omega, by omega⟩ (by omega)) SH_1 rfl (by decide) rfl rfl (Nat.le_of_ble_eq_true rfl) (by decide) (by decide) (Nat.le_refl _) (Nat.le_refl _) dX6_runProgramme_51 (fun m2 r2 hd2 => ?_)
          refine aw_iinc (i := 2) (q := 2) (x := z) (lv' := [(0, .ref 1), (1, iI i), (2, iI (z + -1))]) [1, 2, 0] dX6_runProgramme_54 rfl (by decide) rfl ?_
          refine aw_goto (tgt := 7) dX6_runProgramme_57 (by decide) ?_
          have g16 : m2 1 16 = m1 1 16 := by rw [hd2.1]; exact aup_k (by decide)
          have g12 : m2 1 12 = m1 1 12 - 1 := by rw [hd2.1]; exact aup_eq _ _ _ _
          have hpd := pgI_drop h1 hpc.1 (i := i) ⟨by omega, by omega⟩
          rw [← hd2.1] at hpd
          exact ih r2 m2 (edr i (m1 1 12) E) i (z - 1) (edr_ok h1 ⟨by omega, by omega⟩ (by omega) hd2.2.2) (fun a j h => (hd2.2.1 a j h).trans (hf a j h)) hpd (by omega) (by omega) (fun m' E' h => h5 m' E' (by have e9 : z.toNat = (z - 1).toNat + 1 := (by omega); rw [e9]; exact Or.inr (Or.inr ⟨by omega, m1, (by rw [← show v37 = 0 by omega]; exact hv37), (by rw [hd2.1] at h; exact h)⟩))) (by omega)
        · refine aw_iinc (i := 1) (q := 1) (x := i) (lv' := [(0, .ref 1), (1, iI (i + 1)), (2, iI z)]) [1, 0, 2] dX6_runProgramme_43 rfl (by decide) rfl ?_
          refine aw_goto (tgt := 54) dX6_runProgramme_46 (by decide) ?_
          refine aw_iinc (i := 2) (q := 2) (x := z) (lv' := [(0, .ref 1), (1, iI (i + 1)), (2, iI (z + -1))]) [1, 2, 0] dX6_runProgramme_54 rfl (by decide) rfl ?_
          refine aw_goto (tgt := 7) dX6_runProgramme_57 (by decide) ?_
          exact ih _ m1 E (i + 1) (z - 1) h1 hf hpc.1 (by rw [hpc.2]; omega) (by omega) (fun m' E' h => h5 m' E' (by have e9 : z.toNat = (z - 1).toNat + 1 := (by omega); rw [e9]; exact Or.inr (Or.inl ⟨by omega, m1, (by rw [← show v37 = 1 by omega]; exact hv37), h⟩))) (by omega)
theorem s_X6_runProgramme {mr : aR} (hR : Rok mr) {mi : aM} {E0 : Int → Nat} (hen : enI mr E0) (hpg : pgI mi E0) (hfl : 0 ≤ mi 1 16 ∧ mi 1 16 + 8 ≤ 900000) : SPg yX6_runProgramme cX6_runProgramme 3 none 7 [.ref 1] mi mr (Pgv (fun m r => ∃ E : Int → Nat, prC (mi 1 12).toNat 0 mi E0 m E ∧ enI r E ∧ fr24 mr r ∧ pgI m E)) := by
  refine SPg.gvoid rfl (by decide +kernel) (Nat.le_of_ble_eq_true rfl) ?_
  show AWm RX6 cX6_runProgramme 3 7 _ 0 [(0, .ref 1)] [] mi mr
  have k5 := hpg.2.2.2.2.1
  refine aw_iconst dX6_runProgramme_0 ?_
  refine aw_istore_n (i := 1) (lv' := [(0, .ref 1), (1, iI 0)]) [1, 0] dX6_runProgramme_1 rfl (by decide) rfl ?_
  refine aw_aload_n (i := 0) (q := 0) dX6_runProgramme_2 rfl rfl ?_
  refine aw_getIk (x := mi 1 12) 12 flX6_70 SH_1 (by decide) rfl rfl rfl dX6_runProgramme_3 (fun r3 => ?_)
  refine aw_istore_n (i := 2) (lv' := [(0, .ref 1), (1, iI 0), (2, iI (mi 1 12))]) [1, 2, 0] dX6_runProgramme_6 rfl (by decide) rfl ?_
  exact l_prog hR ((mi 1 12).toNat + 1) mr mi E0 0 (mi 1 12) hen (fun _ _ _ => rfl) hpg (by omega) (by omega) (fun m' E' h => h) (by omega)
