-- part 31: carryOut, runProgramme (printed by wip/whole/gen/p31.py)
/-- what is kept in an entry -/
def eOk (mi : aM) (e : Nat) : Prop := (0 ≤ mi e 0 ∧ mi e 0 < 5) ∧ (0 ≤ mi e 1 ∧ mi e 1 ≤ 100000) ∧ (mi e 2 = 0 ∨ (200 ≤ mi e 2 ∧ mi e 2 ≤ 50000)) ∧ (1 ≤ mi e 3 ∧ mi e 3 ≤ 200) ∧ (0 ≤ mi e 4 ∧ mi e 4 ≤ 500)
/-- a weave by an entry: the shift, or -1 -/
def wvR (mi m : aM) (w T s W v : Int) : Prop := (mi (40 + 2 * w.toNat) 1 = 0 ∧ v = -1 ∧ m = mi) ∨ (mi (40 + 2 * w.toNat) 1 ≠ 0 ∧ fr817 mi m ∧ sOk m 8 ∧ ((v = -1 ∧ (∀ u : Int, 0 ≤ u → u ≤ W → okT mi (fun k => mi (40 + 2 * w.toNat + 1) k) (mi 1 11).toNat (mi (40 + 2 * w.toNat) 1).toNat s (T + u) ≠ 0) ∧ sL m 8 = sL mi 8) ∨ ((0 ≤ v ∧ v ≤ W) ∧ okT mi (fun k => mi (40 + 2 * w.toNat + 1) k) (mi 1 11).toNat (mi (40 + 2 * w.toNat) 1).toNat s (T + v) = 0 ∧ (∀ u : Int, 0 ≤ u → u < v → okT mi (fun k => mi (40 + 2 * w.toNat + 1) k) (mi 1 11).toNat (mi (40 + 2 * w.toNat) 1).toNat s (T + u) ≠ 0) ∧ ((plL (eC mi) (dC mi) (outL (fun k => mi (40 + 2 * w.toNat + 1) k) (mi 1 11).toNat (T + v) s (mi (40 + 2 * w.toNat) 1).toNat 0) (sL mi 8)).2).Perm (sL m 8))))
noncomputable def coA (m : aM) (e : Nat) (v : Int) : aM := if v = -1 then aup (aup m e 5 v) 1 16 (m 1 16 + 1) else aup m e 5 v
/-- an entry is carried out: r = 1, it stays -/
def coR (mi : aM) (e : Nat) (r : Int) (m : aM) : Prop := ∃ (v : Int) (m1 : aM), wvR mi m1 (mi e 0) (mi e 1) (mi e 3) (mi e 4) v ∧ ((r = 0 ∧ (mi e 2 = 0 ∨ 100000 < mi e 1 + mi e 2) ∧ m = coA m1 e v) ∨ (r = 1 ∧ mi e 2 ≠ 0 ∧ mi e 1 + mi e 2 ≤ 100000 ∧ m = aup (coA m1 e v) e 1 (mi e 1 + mi e 2)))
theorem s_X6_carryOut {mr : aR} (hR : Rok mr) {mi : aM} {e : Nat} (he : 50 ≤ e ∧ e ≤ 57) (hek : eOk mi e) (hc : cB mi) (hpl : 1 ≤ mi 1 14 ∧ mi 1 14 ≤ 12) (ho : sOk mi 8) (hp : ∀ x : Int, 0 ≤ x → x < 5 → pOk mi (40 + 2 * x.toNat)) (hfl : 0 ≤ mi 1 16 ∧ mi 1 16 ≤ 2000000) : SPg yX6_carryOut cX6_carryOut 3 (some .boolean) 6 [.ref 1, .ref e] mi mr (Pi mr (fun r m => coR mi e r m)) := by
  refine SPg.bool rfl (by decide +kernel) (Nat.le_of_ble_eq_true rfl) (fun r m h => by (obtain ⟨v, m1, -, h | h⟩ := h <;> omega)) ?_
  show AWm RX6 cX6_carryOut 3 6 _ 0 [(0, .ref 1), (1, .ref e)] [] mi mr
  obtain ⟨h0, h1, h2, h3, h4⟩ := id hek
  refine aw_aload_n (i := 0) (q := 0) dX6_carryOut_0 rfl rfl ?_
  refine aw_getR (r := 23) flX6_46 SH_1 (by decide) rfl (rk_1_6 hR) dX6_carryOut_1 ?_
  refine aw_aload_n (i := 1) (q := 1) dX6_carryOut_4 rfl rfl ?_
  refine aw_getIk (x := mi e 0) 0 flX6_240 (SH_en he) (ee_rng he) rfl rfl rfl dX6_carryOut_5 (fun r5 => ?_)
  refine aw_aald (r := 40 + 2 * (mi e 0).toNat) SH_23 (by decide) (by decide) ⟨by omega, by omega⟩ (hR.2.2 _ (by omega) (by omega)) dX6_carryOut_8 ?_
  refine aw_astore_n (i := 2) (lv' := [(0, .ref 1), (1, .ref e), (2, .ref (40 + 2 * (mi e 0).toNat))]) [1, 2, 0] dX6_carryOut_9 rfl (by decide) rfl ?_
  refine aw_aload_n (i := 1) (q := 1) dX6_carryOut_10 rfl rfl ?_
  refine aw_aload_n (i := 2) (q := 2) dX6_carryOut_11 rfl rfl ?_
  refine aw_cVp (As := []) (st := [.ref e]) clX6_205 (s_X2_isMissing hR (SH_pat ⟨by omega, by omega⟩).1 ⟨by omega, by omega⟩) (SH_pat ⟨by omega, by omega⟩).1 rfl ⟨by omega, by omega⟩ rfl rfl (Nat.le_of_ble_eq_true rfl) (by decide) (by decide) (Nat.le_refl _) (Nat.le_refl _) dX6_carryOut_12 (fun v12 hv12 => ?_)
  refine aw_if_eq (tgt := 22) dX6_carryOut_15 (by decide) (by first | assumption | omega) (fun c15 => ?_) (fun c15 => ?_)
  · refine aw_aload_n (i := 0) (q := 0) dX6_carryOut_22 rfl rfl ?_
    refine aw_aload_n (i := 2) (q := 2) dX6_carryOut_23 rfl rfl ?_
    refine aw_aload_n (i := 1) (q := 1) dX6_carryOut_24 rfl rfl ?_
    refine aw_getIk (x := mi e 1) 1 flX6_243 (SH_en he) (ee_rng he) rfl rfl rfl dX6_carryOut_25 (fun r25 => ?_)
    refine aw_aload_n (i := 1) (q := 1) dX6_carryOut_28 rfl rfl ?_
    refine aw_getIk (x := mi e 3) 3 flX6_249 (SH_en he) (ee_rng he) rfl rfl rfl dX6_carryOut_29 (fun r29 => ?_)
    refine aw_aload_n (i := 1) (q := 1) dX6_carryOut_32 rfl rfl ?_
    refine aw_getIk (x := mi e 4) 4 flX6_252 (SH_en he) (ee_rng he) rfl rfl rfl dX6_carryOut_33 (fun r33 => ?_)
    refine aw_cVi (As := [.ref (40 + 2 * (mi e 0).toNat), iI (mi e 1), iI (mi e 3), iI (mi e 4)]) (st := [.ref e]) clX6_222 (s_X6_weaveFrom hR ⟨isP_of hR h0, hp _ h0.1 h0.2, hc, hpl, by omega, by omega⟩ ho (by omega) (by omega)) SH_1 rfl (by decide) rfl rfl (Nat.le_of_ble_eq_true rfl) (by decide) (by decide) (Nat.le_refl _) (Nat.le_refl _) dX6_carryOut_36 (fun v36 m1 hv36 => ?_)
    have hvr : -1 ≤ v36 ∧ v36 ≤ mi e 4 := by rcases hv36.2.2 with q | q; (have := q.1; omega); (have := q.1; omega)
    have g : ∀ j : Int, m1 e j = mi e j := fun j => hv36.1 _ _ (by omega)
    have g1 := g 1
    have g2 := g 2
    have gf : m1 1 16 = mi 1 16 := hv36.1 _ _ (by omega)
    refine aw_putIk 5 flX6_255 (SH_en he) (ee_rng he) rfl rfl rfl (by first | assumption | omega) dX6_carryOut_39 ?_
    refine aw_aload_n (i := 1) (q := 1) dX6_carryOut_42 rfl rfl ?_
    refine aw_getIk (x := v36) 5 flX6_255 (SH_en he) (ee_rng he) rfl rfl (by (rw [aup_eq]) <;> rfl) dX6_carryOut_43 (fun r43 => ?_)
    refine aw_iconst dX6_carryOut_46 ?_
    refine aw_icmp_ne (tgt := 60) dX6_carryOut_47 (by decide) (by first | assumption | omega) (by decide) (fun c47 => ?_) (fun c47 => ?_)
    · refine aw_aload_n (i := 1) (q := 1) dX6_carryOut_60 rfl rfl ?_
      refine aw_getIk (x := m1 e 2) 2 flX6_246 (SH_en he) (ee_rng he) rfl rfl (by (rw [aup_k (by decide)]) <;> rfl) dX6_carryOut_61 (fun r61 => ?_)
      refine aw_if_eq (tgt := 81) dX6_carryOut_64 (by decide) (by first | assumption | omega) (fun c64 => ?_) (fun c64 => ?_)
      · refine aw_iconst dX6_carryOut_81 ?_
        exact aw_iret ⟨_, rfl, rfl, rfl, v36, m1, Or.inr ⟨by omega, hv36⟩, Or.inl ⟨rfl, by omega, by unfold coA; first | rw [if_pos (by omega)] | rw [if_neg (by omega)]⟩⟩ (Nat.le_refl _) (Nat.le_refl _) dX6_carryOut_82
      · refine aw_aload_n (i := 1) (q := 1) dX6_carryOut_67 rfl rfl ?_
        refine aw_getIk (x := m1 e 1) 1 flX6_243 (SH_en he) (ee_rng he) rfl rfl (by (rw [aup_k (by decide)]) <;> rfl) dX6_carryOut_68 (fun r68 => ?_)
        refine aw_aload_n (i := 1) (q := 1) dX6_carryOut_71 rfl rfl ?_
        refine aw_getIk (x := m1 e 2) 2 flX6_246 (SH_en he) (ee_rng he) rfl rfl (by (rw [aup_k (by decide)]) <;> rfl) dX6_carryOut_72 (fun r72 => ?_)
        refine aw_iadd dX6_carryOut_75 ?_
        refine aw_ldc (x := 100000) coX6_107 rfl dX6_carryOut_76 ?_
        refine aw_icmp_le (tgt := 83) dX6_carryOut_78 (by decide) (by first | assumption | omega) (by decide) (fun c78 => ?_) (fun c78 => ?_)
        · refine aw_aload_n (i := 1) (q := 1) dX6_carryOut_83 rfl rfl ?_
          refine aw_dup dX6_carryOut_84 rfl ?_
          refine aw_getIk (x := m1 e 1) 1 flX6_243 (SH_en he) (ee_rng he) rfl rfl (by (rw [aup_k (by decide)]) <;> rfl) dX6_carryOut_85 (fun r85 => ?_)
          refine aw_aload_n (i := 1) (q := 1) dX6_carryOut_88 rfl rfl ?_
          refine aw_getIk (x := m1 e 2) 2 flX6_246 (SH_en he) (ee_rng he) rfl rfl (by (rw [aup_k (by decide)]) <;> rfl) dX6_carryOut_89 (fun r89 => ?_)
          refine aw_iadd dX6_carryOut_92 ?_
          refine aw_putIk 1 flX6_243 (SH_en he) (ee_rng he) rfl rfl rfl (by first | assumption | omega) dX6_carryOut_93 ?_
          refine aw_iconst dX6_carryOut_96 ?_
          exact aw_iret ⟨_, rfl, rfl, rfl, v36, m1, Or.inr ⟨by omega, hv36⟩, Or.inr ⟨rfl, by omega, by omega, by unfold coA; first | (rw [if_pos (by omega)]; try rw [g1, g2]) | (rw [if_neg (by omega)]; try rw [g1, g2])⟩⟩ (Nat.le_refl _) (Nat.le_refl _) dX6_carryOut_97
        · refine aw_iconst dX6_carryOut_81 ?_
          exact aw_iret ⟨_, rfl, rfl, rfl, v36, m1, Or.inr ⟨by omega, hv36⟩, Or.inl ⟨rfl, by omega, by unfold coA; first | rw [if_pos (by omega)] | rw [if_neg (by omega)]⟩⟩ (Nat.le_refl _) (Nat.le_refl _) dX6_carryOut_82
    · refine aw_aload_n (i := 0) (q := 0) dX6_carryOut_50 rfl rfl ?_
      refine aw_dup dX6_carryOut_51 rfl ?_
      refine aw_getIk (x := m1 1 16) 16 flX6_82 SH_1 (by decide) rfl rfl (by (rw [aup_k (by decide)]) <;> rfl) dX6_carryOut_52 (fun r52 => ?_)
      refine aw_iconst dX6_carryOut_55 ?_
      refine aw_iadd dX6_carryOut_56 ?_
      refine aw_putIk 16 flX6_82 SH_1 (by decide) rfl rfl rfl (by first | assumption | omega) dX6_carryOut_57 ?_
      refine aw_aload_n (i := 1) (q := 1) dX6_carryOut_60 rfl rfl ?_
      refine aw_getIk (x := m1 e 2) 2 flX6_246 (SH_en he) (ee_rng he) rfl rfl (by (rw [aup_k (by decide), aup_k (by decide)]) <;> rfl) dX6_carryOut_61 (fun r61 => ?_)
      refine aw_if_eq (tgt := 81) dX6_carryOut_64 (by decide) (by first | assumption | omega) (fun c64 => ?_) (fun c64 => ?_)
      · refine aw_iconst dX6_carryOut_81 ?_
        exact aw_iret ⟨_, rfl, rfl, rfl, v36, m1, Or.inr ⟨by omega, hv36⟩, Or.inl ⟨rfl, by omega, by unfold coA; first | rw [if_pos (by omega)] | rw [if_neg (by omega)]⟩⟩ (Nat.le_refl _) (Nat.le_refl _) dX6_carryOut_82
      · refine aw_aload_n (i := 1) (q := 1) dX6_carryOut_67 rfl rfl ?_
        refine aw_getIk (x := m1 e 1) 1 flX6_243 (SH_en he) (ee_rng he) rfl rfl (by (rw [aup_k (by decide), aup_k (by decide)]) <;> rfl) dX6_carryOut_68 (fun r68 => ?_)
        refine aw_aload_n (i := 1) (q := 1) dX6_carryOut_71 rfl rfl ?_
        refine aw_getIk (x := m1 e 2) 2 flX6_246 (SH_en he) (ee_rng he) rfl rfl (by (rw [aup_k (by decide), aup_k (by decide)]) <;> rfl) dX6_carryOut_72 (fun r72 => ?_)
        refine aw_iadd dX6_carryOut_75 ?_
        refine aw_ldc (x := 100000) coX6_107 rfl dX6_carryOut_76 ?_
        refine aw_icmp_le (tgt := 83) dX6_carryOut_78 (by decide) (by first | assumption | omega) (by decide) (fun c78 => ?_) (fun c78 => ?_)
        · refine aw_aload_n (i := 1) (q := 1) dX6_carryOut_83 rfl rfl ?_
          refine aw_dup dX6_carryOut_84 rfl ?_
          refine aw_getIk (x := m1 e 1) 1 flX6_243 (SH_en he) (ee_rng he) rfl rfl (by (rw [aup_k (by decide), aup_k (by decide)]) <;> rfl) dX6_carryOut_85 (fun r85 => ?_)
          refine aw_aload_n (i := 1) (q := 1) dX6_carryOut_88 rfl rfl ?_
          refine aw_getIk (x := m1 e 2) 2 flX6_246 (SH_en he) (ee_rng he) rfl rfl (by (rw [aup_k (by decide), aup_k (by decide)]) <;> rfl) dX6_carryOut_89 (fun r89 => ?_)
          refine aw_iadd dX6_carryOut_92 ?_
          refine aw_putIk 1 flX6_243 (SH_en he) (ee_rng he) rfl rfl rfl (by first | assumption | omega) dX6_carryOut_93 ?_
          refine aw_iconst dX6_carryOut_96 ?_
          exact aw_iret ⟨_, rfl, rfl, rfl, v36, m1, Or.inr ⟨by omega, hv36⟩, Or.inr ⟨rfl, by omega, by omega, by unfold coA; first | (rw [if_pos (by omega)]; try rw [g1, g2]) | (rw [if_neg (by omega)]; try rw [g1, g2])⟩⟩ (Nat.le_refl _) (Nat.le_refl _) dX6_carryOut_97
        · refine aw_iconst dX6_carryOut_81 ?_
          exact aw_iret ⟨_, rfl, rfl, rfl, v36, m1, Or.inr ⟨by omega, hv36⟩, Or.inl ⟨rfl, by omega, by unfold coA; first | rw [if_pos (by omega)] | rw [if_neg (by omega)]⟩⟩ (Nat.le_refl _) (Nat.le_refl _) dX6_carryOut_82
  · refine aw_iconst dX6_carryOut_18 ?_
    refine aw_goto (tgt := 39) dX6_carryOut_19 (by decide) ?_
    refine aw_putIk 5 flX6_255 (SH_en he) (ee_rng he) rfl rfl rfl (by decide) dX6_carryOut_39 ?_
    refine aw_aload_n (i := 1) (q := 1) dX6_carryOut_42 rfl rfl ?_
    refine aw_getIk (x := -1) 5 flX6_255 (SH_en he) (ee_rng he) rfl rfl (by (rw [aup_eq]) <;> rfl) dX6_carryOut_43 (fun r43 => ?_)
    refine aw_iconst dX6_carryOut_46 ?_
    refine aw_icmp_ne (tgt := 60) dX6_carryOut_47 (by decide) (by decide) (by decide) (fun c47 => ?_) (fun c47 => ?_)
    · exact absurd c47 (by decide)
    · refine aw_aload_n (i := 0) (q := 0) dX6_carryOut_50 rfl rfl ?_
      refine aw_dup dX6_carryOut_51 rfl ?_
      refine aw_getIk (x := mi 1 16) 16 flX6_82 SH_1 (by decide) rfl rfl (by (rw [aup_k (by decide)]) <;> rfl) dX6_carryOut_52 (fun r52 => ?_)
      refine aw_iconst dX6_carryOut_55 ?_
      refine aw_iadd dX6_carryOut_56 ?_
      refine aw_putIk 16 flX6_82 SH_1 (by decide) rfl rfl rfl (by first | assumption | omega) dX6_carryOut_57 ?_
      refine aw_aload_n (i := 1) (q := 1) dX6_carryOut_60 rfl rfl ?_
      refine aw_getIk (x := mi e 2) 2 flX6_246 (SH_en he) (ee_rng he) rfl rfl (by (rw [aup_k (by decide), aup_k (by decide)]) <;> rfl) dX6_carryOut_61 (fun r61 => ?_)
      refine aw_if_eq (tgt := 81) dX6_carryOut_64 (by decide) (by first | assumption | omega) (fun c64 => ?_) (fun c64 => ?_)
      · refine aw_iconst dX6_carryOut_81 ?_
        exact aw_iret ⟨_, rfl, rfl, rfl, -1, mi, Or.inl ⟨by omega, rfl, rfl⟩, Or.inl ⟨rfl, by omega, by unfold coA; first | rw [if_pos (by omega)] | rw [if_neg (by omega)]⟩⟩ (Nat.le_refl _) (Nat.le_refl _) dX6_carryOut_82
      · refine aw_aload_n (i := 1) (q := 1) dX6_carryOut_67 rfl rfl ?_
        refine aw_getIk (x := mi e 1) 1 flX6_243 (SH_en he) (ee_rng he) rfl rfl (by (rw [aup_k (by decide), aup_k (by decide)]) <;> rfl) dX6_carryOut_68 (fun r68 => ?_)
        refine aw_aload_n (i := 1) (q := 1) dX6_carryOut_71 rfl rfl ?_
        refine aw_getIk (x := mi e 2) 2 flX6_246 (SH_en he) (ee_rng he) rfl rfl (by (rw [aup_k (by decide), aup_k (by decide)]) <;> rfl) dX6_carryOut_72 (fun r72 => ?_)
        refine aw_iadd dX6_carryOut_75 ?_
        refine aw_ldc (x := 100000) coX6_107 rfl dX6_carryOut_76 ?_
        refine aw_icmp_le (tgt := 83) dX6_carryOut_78 (by decide) (by first | assumption | omega) (by decide) (fun c78 => ?_) (fun c78 => ?_)
        · refine aw_aload_n (i := 1) (q := 1) dX6_carryOut_83 rfl rfl ?_
          refine aw_dup dX6_carryOut_84 rfl ?_
          refine aw_getIk (x := mi e 1) 1 flX6_243 (SH_en he) (ee_rng he) rfl rfl (by (rw [aup_k (by decide), aup_k (by decide)]) <;> rfl) dX6_carryOut_85 (fun r85 => ?_)
          refine aw_aload_n (i := 1) (q := 1) dX6_carryOut_88 rfl rfl ?_
          refine aw_getIk (x := mi e 2) 2 flX6_246 (SH_en he) (ee_rng he) rfl rfl (by (rw [aup_k (by decide), aup_k (by decide)]) <;> rfl) dX6_carryOut_89 (fun r89 => ?_)
          refine aw_iadd dX6_carryOut_92 ?_
          refine aw_putIk 1 flX6_243 (SH_en he) (ee_rng he) rfl rfl rfl (by first | assumption | omega) dX6_carryOut_93 ?_
          refine aw_iconst dX6_carryOut_96 ?_
          exact aw_iret ⟨_, rfl, rfl, rfl, -1, mi, Or.inl ⟨by omega, rfl, rfl⟩, Or.inr ⟨rfl, by omega, by omega, by unfold coA; first | (rw [if_pos (by omega)]; try rw [g1, g2]) | (rw [if_neg (by omega)]; try rw [g1, g2])⟩⟩ (Nat.le_refl _) (Nat.le_refl _) dX6_carryOut_97
        · refine aw_iconst dX6_carryOut_81 ?_
          exact aw_iret ⟨_, rfl, rfl, rfl, -1, mi, Or.inl ⟨by omega, rfl, rfl⟩, Or.inl ⟨rfl, by omega, by unfold coA; first | rw [if_pos (by omega)] | rw [if_neg (by omega)]⟩⟩ (Nat.le_refl _) (Nat.le_refl _) dX6_carryOut_82
