-- part 46: the model: carriesOut (printed by wip/whole/gen/p46.py)
/-- a weave by an entry of the model -/
def mwR (mi m : aM) (w T s W v : Int) : Prop := (mi 73 w = 0 ∧ v = -1 ∧ m = mi) ∨ (mi 73 w ≠ 0 ∧ mOk m ∧ frM mi m ∧ ((v = -1 ∧ (∀ u : Int, 0 ≤ u → u ≤ W → okM mi w s (T + u) ≠ 0) ∧ mL m = mL mi) ∨ ((0 ≤ v ∧ v ≤ W) ∧ okM mi w s (T + v) = 0 ∧ (∀ u : Int, 0 ≤ u → u < v → okM mi w s (T + u) ≠ 0) ∧ ((plL (eM mi) (dM mi) (outL (fun k => mi 72 (100 * w + k)) (mi 58 6).toNat (T + v) s (mi 73 w).toNat 0) (mL mi)).2).Perm (mL m))))
def mcA (m : aM) (i v : Int) : aM := aup (aup m 85 i v) 58 43 (m 58 43 + (if v = -1 then 1 else 0))
def mcR (mi : aM) (i r : Int) (m : aM) : Prop := ∃ (v : Int) (m1 : aM), mwR mi m1 (mi 80 i) (mi 81 i) (mi 83 i) (mi 84 i) v ∧ ((r = 0 ∧ (mi 82 i = 0 ∨ 100000 < mi 81 i + mi 82 i) ∧ m = mcA m1 i v) ∨ (r = 1 ∧ mi 82 i ≠ 0 ∧ mi 81 i + mi 82 i ≤ 100000 ∧ m = aup (mcA m1 i v) 81 i (mi 81 i + mi 82 i)))
def meOk (mi : aM) (i : Int) : Prop := (0 ≤ mi 80 i ∧ mi 80 i < 5) ∧ (0 ≤ mi 81 i ∧ mi 81 i ≤ 100000) ∧ (mi 82 i = 0 ∨ (200 ≤ mi 82 i ∧ mi 82 i ≤ 50000)) ∧ (1 ≤ mi 83 i ∧ mi 83 i ≤ 200) ∧ (0 ≤ mi 84 i ∧ mi 84 i ≤ 500)
theorem s_X7_carriesOut {mr : aR} (hR : Rok mr) {mi : aM} {i : Int} (hi : 0 ≤ i ∧ i < 8) (hek : meOk mi i) (hB : mB mi) (ho : mOk mi) (hpl : 1 ≤ mi 58 7 ∧ mi 58 7 ≤ 12) (hp : pM mi) (hfl : 0 ≤ mi 58 43 ∧ mi 58 43 ≤ 2000000) : SPg yX7_carriesOut cX7_carriesOut 2 (some .boolean) 5 [.ref 58, iI i] mi mr (Pi mr (fun r m => mcR mi i r m)) := by
  refine SPg.bool rfl (by decide +kernel) (Nat.le_of_ble_eq_true rfl) (fun r m h => by (obtain ⟨v, m1, -, h | h⟩ := h <;> omega)) ?_
  show AWm RX7 cX7_carriesOut 2 5 _ 0 [(0, .ref 58), (1, iI i)] [] mi mr
  obtain ⟨h0, h1, h2, h3, h4⟩ := id hek
  refine aw_aload_n (i := 0) (q := 0) dX7_carriesOut_0 rfl rfl ?_
  refine aw_getR (r := 85) flX7_96 SH_58 (by decide) rfl (rk_58_41 hR) dX7_carriesOut_1 ?_
  refine aw_iload_n (i := 1) (q := 1) dX7_carriesOut_4 rfl rfl ?_
  refine aw_aload_n (i := 0) (q := 0) dX7_carriesOut_5 rfl rfl ?_
  refine aw_getR (r := 73) flX7_57 SH_58 (by decide) rfl (rk_58_21 hR) dX7_carriesOut_6 ?_
  refine aw_aload_n (i := 0) (q := 0) dX7_carriesOut_9 rfl rfl ?_
  refine aw_getR (r := 80) flX7_81 SH_58 (by decide) rfl (rk_58_36 hR) dX7_carriesOut_10 ?_
  refine aw_iload_n (i := 1) (q := 1) dX7_carriesOut_13 rfl rfl ?_
  refine aw_ialdv (x := mi 80 i) SH_80 (by decide) ⟨by omega, by omega⟩ rfl dX7_carriesOut_14 (fun r14 => ?_)
  refine aw_ialdv (x := mi 73 (mi 80 i)) SH_73 (by decide) ⟨by omega, by omega⟩ rfl dX7_carriesOut_15 (fun r15 => ?_)
  refine aw_if_ne (tgt := 23) dX7_carriesOut_16 (by decide) (by first | assumption | omega) (fun c16 => ?_) (fun c16 => ?_)
  · refine aw_aload_n (i := 0) (q := 0) dX7_carriesOut_23 rfl rfl ?_
    refine aw_aload_n (i := 0) (q := 0) dX7_carriesOut_24 rfl rfl ?_
    refine aw_getR (r := 80) flX7_81 SH_58 (by decide) rfl (rk_58_36 hR) dX7_carriesOut_25 ?_
    refine aw_iload_n (i := 1) (q := 1) dX7_carriesOut_28 rfl rfl ?_
    refine aw_ialdv (x := mi 80 i) SH_80 (by decide) ⟨by omega, by omega⟩ rfl dX7_carriesOut_29 (fun r29 => ?_)
    refine aw_aload_n (i := 0) (q := 0) dX7_carriesOut_30 rfl rfl ?_
    refine aw_getR (r := 81) flX7_84 SH_58 (by decide) rfl (rk_58_37 hR) dX7_carriesOut_31 ?_
    refine aw_iload_n (i := 1) (q := 1) dX7_carriesOut_34 rfl rfl ?_
    refine aw_ialdv (x := mi 81 i) SH_81 (by decide) ⟨by omega, by omega⟩ rfl dX7_carriesOut_35 (fun r35 => ?_)
    refine aw_aload_n (i := 0) (q := 0) dX7_carriesOut_36 rfl rfl ?_
    refine aw_getR (r := 83) flX7_90 SH_58 (by decide) rfl (rk_58_39 hR) dX7_carriesOut_37 ?_
    refine aw_iload_n (i := 1) (q := 1) dX7_carriesOut_40 rfl rfl ?_
    refine aw_ialdv (x := mi 83 i) SH_83 (by decide) ⟨by omega, by omega⟩ rfl dX7_carriesOut_41 (fun r41 => ?_)
    refine aw_aload_n (i := 0) (q := 0) dX7_carriesOut_42 rfl rfl ?_
    refine aw_getR (r := 84) flX7_93 SH_58 (by decide) rfl (rk_58_40 hR) dX7_carriesOut_43 ?_
    refine aw_iload_n (i := 1) (q := 1) dX7_carriesOut_46 rfl rfl ?_
    refine aw_ialdv (x := mi 84 i) SH_84 (by decide) ⟨by omega, by omega⟩ rfl dX7_carriesOut_47 (fun r47 => ?_)
    refine aw_cVi (As := [iI (mi 80 i), iI (mi 81 i), iI (mi 83 i), iI (mi 84 i)]) (st := [iI i, .ref 85]) clX7_266 (s_X7_weaves hR hB ho hpl hp h0 h1 h3 h4) SH_58 rfl (by decide) rfl rfl (Nat.le_of_ble_eq_true rfl) (by decide) (by decide) (Nat.le_refl _) (Nat.le_refl _) dX7_carriesOut_48 (fun v48 m1 hv48 => ?_)
    have hvr : -1 ≤ v48 ∧ v48 ≤ mi 84 i := by rcases hv48.2.2 with q | q; (have := q.1; omega); (have := q.1; omega)
    have g81 : m1 81 i = mi 81 i := hv48.2.1 _ _ (by omega) (by omega)
    have g82 : m1 82 i = mi 82 i := hv48.2.1 _ _ (by omega) (by omega)
    have gf : m1 58 43 = mi 58 43 := hv48.2.1 _ _ (by omega) (by omega)
    refine aw_iast SH_85 (by decide) ⟨by omega, by omega⟩ (by first | assumption | omega) dX7_carriesOut_51 ?_
    refine aw_aload_n (i := 0) (q := 0) dX7_carriesOut_52 rfl rfl ?_
    refine aw_dup dX7_carriesOut_53 rfl ?_
    refine aw_getIk (x := m1 58 43) 43 flX7_288 SH_58 (by decide) rfl rfl (by (rw [aup_a (by decide)]) <;> rfl) dX7_carriesOut_54 (fun r54 => ?_)
    refine aw_aload_n (i := 0) (q := 0) dX7_carriesOut_57 rfl rfl ?_
    refine aw_getR (r := 85) flX7_96 SH_58 (by decide) rfl (rk_58_41 hR) dX7_carriesOut_58 ?_
    refine aw_iload_n (i := 1) (q := 1) dX7_carriesOut_61 rfl rfl ?_
    refine aw_ialdv (x := v48) SH_85 (by decide) ⟨by omega, by omega⟩ (by (rw [aup_eq]) <;> rfl) dX7_carriesOut_62 (fun r62 => ?_)
    refine aw_iconst dX7_carriesOut_63 ?_
    refine aw_icmp_ne (tgt := 71) dX7_carriesOut_64 (by decide) (by first | assumption | omega) (by decide) (fun c64 => ?_) (fun c64 => ?_)
    · refine aw_iconst dX7_carriesOut_71 ?_
      refine aw_iadd dX7_carriesOut_72 ?_
      refine aw_putIk 43 flX7_288 SH_58 (by decide) rfl rfl rfl (by first | assumption | omega) dX7_carriesOut_73 ?_
      refine aw_aload_n (i := 0) (q := 0) dX7_carriesOut_76 rfl rfl ?_
      refine aw_getR (r := 82) flX7_87 SH_58 (by decide) rfl (rk_58_38 hR) dX7_carriesOut_77 ?_
      refine aw_iload_n (i := 1) (q := 1) dX7_carriesOut_80 rfl rfl ?_
      refine aw_ialdv (x := m1 82 i) SH_82 (by decide) ⟨by omega, by omega⟩ (by (rw [aup_a (by decide), aup_a (by decide)]) <;> rfl) dX7_carriesOut_81 (fun r81 => ?_)
      refine aw_if_eq (tgt := 103) dX7_carriesOut_82 (by decide) (by first | assumption | omega) (fun c82 => ?_) (fun c82 => ?_)
      · refine aw_iconst dX7_carriesOut_103 ?_
        exact aw_iret ⟨_, rfl, rfl, rfl, v48, m1, Or.inr ⟨by omega, hv48.1, hv48.2.1, hv48.2.2⟩, Or.inl ⟨rfl, by omega, by unfold mcA; first | rw [if_pos (by omega)] | rw [if_neg (by omega)]⟩⟩ (Nat.le_refl _) (Nat.le_refl _) dX7_carriesOut_104
      · refine aw_aload_n (i := 0) (q := 0) dX7_carriesOut_85 rfl rfl ?_
        refine aw_getR (r := 81) flX7_84 SH_58 (by decide) rfl (rk_58_37 hR) dX7_carriesOut_86 ?_
        refine aw_iload_n (i := 1) (q := 1) dX7_carriesOut_89 rfl rfl ?_
        refine aw_ialdv (x := m1 81 i) SH_81 (by decide) ⟨by omega, by omega⟩ (by (rw [aup_a (by decide), aup_a (by decide)]) <;> rfl) dX7_carriesOut_90 (fun r90 => ?_)
        refine aw_aload_n (i := 0) (q := 0) dX7_carriesOut_91 rfl rfl ?_
        refine aw_getR (r := 82) flX7_87 SH_58 (by decide) rfl (rk_58_38 hR) dX7_carriesOut_92 ?_
        refine aw_iload_n (i := 1) (q := 1) dX7_carriesOut_95 rfl rfl ?_
        refine aw_ialdv (x := m1 82 i) SH_82 (by decide) ⟨by omega, by omega⟩ (by (rw [aup_a (by decide), aup_a (by decide)]) <;> rfl) dX7_carriesOut_96 (fun r96 => ?_)
        refine aw_iadd dX7_carriesOut_97 ?_
        refine aw_ldc (x := 100000) coX7_196 rfl dX7_carriesOut_98 ?_
        refine aw_icmp_le (tgt := 105) dX7_carriesOut_100 (by decide) (by first | assumption | omega) (by decide) (fun c100 => ?_) (fun c100 => ?_)
        · refine aw_aload_n (i := 0) (q := 0) dX7_carriesOut_105 rfl rfl ?_
          refine aw_getR (r := 81) flX7_84 SH_58 (by decide) rfl (rk_58_37 hR) dX7_carriesOut_106 ?_
          refine aw_iload_n (i := 1) (q := 1) dX7_carriesOut_109 rfl rfl ?_
          refine aw_dup2 dX7_carriesOut_110 rfl rfl ?_
          refine aw_ialdv (x := m1 81 i) SH_81 (by decide) ⟨by omega, by omega⟩ (by (rw [aup_a (by decide), aup_a (by decide)]) <;> rfl) dX7_carriesOut_111 (fun r111 => ?_)
          refine aw_aload_n (i := 0) (q := 0) dX7_carriesOut_112 rfl rfl ?_
          refine aw_getR (r := 82) flX7_87 SH_58 (by decide) rfl (rk_58_38 hR) dX7_carriesOut_113 ?_
          refine aw_iload_n (i := 1) (q := 1) dX7_carriesOut_116 rfl rfl ?_
          refine aw_ialdv (x := m1 82 i) SH_82 (by decide) ⟨by omega, by omega⟩ (by (rw [aup_a (by decide), aup_a (by decide)]) <;> rfl) dX7_carriesOut_117 (fun r117 => ?_)
          refine aw_iadd dX7_carriesOut_118 ?_
          refine aw_iast SH_81 (by decide) ⟨by omega, by omega⟩ (by first | assumption | omega) dX7_carriesOut_119 ?_
          refine aw_iconst dX7_carriesOut_120 ?_
          exact aw_iret ⟨_, rfl, rfl, rfl, v48, m1, Or.inr ⟨by omega, hv48.1, hv48.2.1, hv48.2.2⟩, Or.inr ⟨rfl, by omega, by omega, by unfold mcA; first | (rw [if_pos (by omega)]; try rw [g81, g82]) | (rw [if_neg (by omega)]; try rw [g81, g82])⟩⟩ (Nat.le_refl _) (Nat.le_refl _) dX7_carriesOut_121
        · refine aw_iconst dX7_carriesOut_103 ?_
          exact aw_iret ⟨_, rfl, rfl, rfl, v48, m1, Or.inr ⟨by omega, hv48.1, hv48.2.1, hv48.2.2⟩, Or.inl ⟨rfl, by omega, by unfold mcA; first | rw [if_pos (by omega)] | rw [if_neg (by omega)]⟩⟩ (Nat.le_refl _) (Nat.le_refl _) dX7_carriesOut_104
    · refine aw_iconst dX7_carriesOut_67 ?_
      refine aw_goto (tgt := 72) dX7_carriesOut_68 (by decide) ?_
      refine aw_iadd dX7_carriesOut_72 ?_
      refine aw_putIk 43 flX7_288 SH_58 (by decide) rfl rfl rfl (by first | assumption | omega) dX7_carriesOut_73 ?_
      refine aw_aload_n (i := 0) (q := 0) dX7_carriesOut_76 rfl rfl ?_
      refine aw_getR (r := 82) flX7_87 SH_58 (by decide) rfl (rk_58_38 hR) dX7_carriesOut_77 ?_
      refine aw_iload_n (i := 1) (q := 1) dX7_carriesOut_80 rfl rfl ?_
      refine aw_ialdv (x := m1 82 i) SH_82 (by decide) ⟨by omega, by omega⟩ (by (rw [aup_a (by decide), aup_a (by decide)]) <;> rfl) dX7_carriesOut_81 (fun r81 => ?_)
      refine aw_if_eq (tgt := 103) dX7_carriesOut_82 (by decide) (by first | assumption | omega) (fun c82 => ?_) (fun c82 => ?_)
      · refine aw_iconst dX7_carriesOut_103 ?_
        exact aw_iret ⟨_, rfl, rfl, rfl, v48, m1, Or.inr ⟨by omega, hv48.1, hv48.2.1, hv48.2.2⟩, Or.inl ⟨rfl, by omega, by unfold mcA; first | rw [if_pos (by omega)] | rw [if_neg (by omega)]⟩⟩ (Nat.le_refl _) (Nat.le_refl _) dX7_carriesOut_104
      · refine aw_aload_n (i := 0) (q := 0) dX7_carriesOut_85 rfl rfl ?_
        refine aw_getR (r := 81) flX7_84 SH_58 (by decide) rfl (rk_58_37 hR) dX7_carriesOut_86 ?_
        refine aw_iload_n (i := 1) (q := 1) dX7_carriesOut_89 rfl rfl ?_
        refine aw_ialdv (x := m1 81 i) SH_81 (by decide) ⟨by omega, by omega⟩ (by (rw [aup_a (by decide), aup_a (by decide)]) <;> rfl) dX7_carriesOut_90 (fun r90 => ?_)
        refine aw_aload_n (i := 0) (q := 0) dX7_carriesOut_91 rfl rfl ?_
        refine aw_getR (r := 82) flX7_87 SH_58 (by decide) rfl (rk_58_38 hR) dX7_carriesOut_92 ?_
        refine aw_iload_n (i := 1) (q := 1) dX7_carriesOut_95 rfl rfl ?_
        refine aw_ialdv (x := m1 82 i) SH_82 (by decide) ⟨by omega, by omega⟩ (by (rw [aup_a (by decide), aup_a (by decide)]) <;> rfl) dX7_carriesOut_96 (fun r96 => ?_)
        refine aw_iadd dX7_carriesOut_97 ?_
        refine aw_ldc (x := 100000) coX7_196 rfl dX7_carriesOut_98 ?_
        refine aw_icmp_le (tgt := 105) dX7_carriesOut_100 (by decide) (by first | assumption | omega) (by decide) (fun c100 => ?_) (fun c100 => ?_)
        · refine aw_aload_n (i := 0) (q := 0) dX7_carriesOut_105 rfl rfl ?_
          refine aw_getR (r := 81) flX7_84 SH_58 (by decide) rfl (rk_58_37 hR) dX7_carriesOut_106 ?_
          refine aw_iload_n (i := 1) (q := 1) dX7_carriesOut_109 rfl rfl ?_
          refine aw_dup2 dX7_carriesOut_110 rfl rfl ?_
          refine aw_ialdv (x := m1 81 i) SH_81 (by decide) ⟨by omega, by omega⟩ (by (rw [aup_a (by decide), aup_a (by decide)]) <;> rfl) dX7_carriesOut_111 (fun r111 => ?_)
          refine aw_aload_n (i := 0) (q := 0) dX7_carriesOut_112 rfl rfl ?_
          refine aw_getR (r := 82) flX7_87 SH_58 (by decide) rfl (rk_58_38 hR) dX7_carriesOut_113 ?_
          refine aw_iload_n (i := 1) (q := 1) dX7_carriesOut_116 rfl rfl ?_
          refine aw_ialdv (x := m1 82 i) SH_82 (by decide) ⟨by omega, by omega⟩ (by (rw [aup_a (by decide), aup_a (by decide)]) <;> rfl) dX7_carriesOut_117 (fun r117 => ?_)
          refine aw_iadd dX7_carriesOut_118 ?_
          refine aw_iast SH_81 (by decide) ⟨by omega, by omega⟩ (by first | assumption | omega) dX7_carriesOut_119 ?_
          refine aw_iconst dX7_carriesOut_120 ?_
          exact aw_iret ⟨_, rfl, rfl, rfl, v48, m1, Or.inr ⟨by omega, hv48.1, hv48.2.1, hv48.2.2⟩, Or.inr ⟨rfl, by omega, by omega, by unfold mcA; first | (rw [if_pos (by omega)]; try rw [g81, g82]) | (rw [if_neg (by omega)]; try rw [g81, g82])⟩⟩ (Nat.le_refl _) (Nat.le_refl _) dX7_carriesOut_121
        · refine aw_iconst dX7_carriesOut_103 ?_
          exact aw_iret ⟨_, rfl, rfl, rfl, v48, m1, Or.inr ⟨by omega, hv48.1, hv48.2.1, hv48.2.2⟩, Or.inl ⟨rfl, by omega, by unfold mcA; first | rw [if_pos (by omega)] | rw [if_neg (by omega)]⟩⟩ (Nat.le_refl _) (Nat.le_refl _) dX7_carriesOut_104
  · refine aw_iconst dX7_carriesOut_19 ?_
    refine aw_goto (tgt := 51) dX7_carriesOut_20 (by decide) ?_
    refine aw_iast SH_85 (by decide) ⟨by omega, by omega⟩ (by decide) dX7_carriesOut_51 ?_
    refine aw_aload_n (i := 0) (q := 0) dX7_carriesOut_52 rfl rfl ?_
    refine aw_dup dX7_carriesOut_53 rfl ?_
    refine aw_getIk (x := mi 58 43) 43 flX7_288 SH_58 (by decide) rfl rfl (by (rw [aup_a (by decide)]) <;> rfl) dX7_carriesOut_54 (fun r54 => ?_)
    refine aw_aload_n (i := 0) (q := 0) dX7_carriesOut_57 rfl rfl ?_
    refine aw_getR (r := 85) flX7_96 SH_58 (by decide) rfl (rk_58_41 hR) dX7_carriesOut_58 ?_
    refine aw_iload_n (i := 1) (q := 1) dX7_carriesOut_61 rfl rfl ?_
    refine aw_ialdv (x := -1) SH_85 (by decide) ⟨by omega, by omega⟩ (by (rw [aup_eq]) <;> rfl) dX7_carriesOut_62 (fun r62 => ?_)
    refine aw_iconst dX7_carriesOut_63 ?_
    refine aw_icmp_ne (tgt := 71) dX7_carriesOut_64 (by decide) (by decide) (by decide) (fun c64 => ?_) (fun c64 => ?_)
    · exact absurd c64 (by decide)
    · refine aw_iconst dX7_carriesOut_67 ?_
      refine aw_goto (tgt := 72) dX7_carriesOut_68 (by decide) ?_
      refine aw_iadd dX7_carriesOut_72 ?_
      refine aw_putIk 43 flX7_288 SH_58 (by decide) rfl rfl rfl (by first | assumption | omega) dX7_carriesOut_73 ?_
      refine aw_aload_n (i := 0) (q := 0) dX7_carriesOut_76 rfl rfl ?_
      refine aw_getR (r := 82) flX7_87 SH_58 (by decide) rfl (rk_58_38 hR) dX7_carriesOut_77 ?_
      refine aw_iload_n (i := 1) (q := 1) dX7_carriesOut_80 rfl rfl ?_
      refine aw_ialdv (x := mi 82 i) SH_82 (by decide) ⟨by omega, by omega⟩ (by (rw [aup_a (by decide), aup_a (by decide)]) <;> rfl) dX7_carriesOut_81 (fun r81 => ?_)
      refine aw_if_eq (tgt := 103) dX7_carriesOut_82 (by decide) (by first | assumption | omega) (fun c82 => ?_) (fun c82 => ?_)
      · refine aw_iconst dX7_carriesOut_103 ?_
        exact aw_iret ⟨_, rfl, rfl, rfl, -1, mi, Or.inl ⟨by omega, rfl, rfl⟩, Or.inl ⟨rfl, by omega, by unfold mcA; first | rw [if_pos (by omega)] | rw [if_neg (by omega)]⟩⟩ (Nat.le_refl _) (Nat.le_refl _) dX7_carriesOut_104
      · refine aw_aload_n (i := 0) (q := 0) dX7_carriesOut_85 rfl rfl ?_
        refine aw_getR (r := 81) flX7_84 SH_58 (by decide) rfl (rk_58_37 hR) dX7_carriesOut_86 ?_
        refine aw_iload_n (i := 1) (q := 1) dX7_carriesOut_89 rfl rfl ?_
        refine aw_ialdv (x := mi 81 i) SH_81 (by decide) ⟨by omega, by omega⟩ (by (rw [aup_a (by decide), aup_a (by decide)]) <;> rfl) dX7_carriesOut_90 (fun r90 => ?_)
        refine aw_aload_n (i := 0) (q := 0) dX7_carriesOut_91 rfl rfl ?_
        refine aw_getR (r := 82) flX7_87 SH_58 (by decide) rfl (rk_58_38 hR) dX7_carriesOut_92 ?_
        refine aw_iload_n (i := 1) (q := 1) dX7_carriesOut_95 rfl rfl ?_
        refine aw_ialdv (x := mi 82 i) SH_82 (by decide) ⟨by omega, by omega⟩ (by (rw [aup_a (by decide), aup_a (by decide)]) <;> rfl) dX7_carriesOut_96 (fun r96 => ?_)
        refine aw_iadd dX7_carriesOut_97 ?_
        refine aw_ldc (x := 100000) coX7_196 rfl dX7_carriesOut_98 ?_
        refine aw_icmp_le (tgt := 105) dX7_carriesOut_100 (by decide) (by first | assumption | omega) (by decide) (fun c100 => ?_) (fun c100 => ?_)
        · refine aw_aload_n (i := 0) (q := 0) dX7_carriesOut_105 rfl rfl ?_
          refine aw_getR (r := 81) flX7_84 SH_58 (by decide) rfl (rk_58_37 hR) dX7_carriesOut_106 ?_
          refine aw_iload_n (i := 1) (q := 1) dX7_carriesOut_109 rfl rfl ?_
          refine aw_dup2 dX7_carriesOut_110 rfl rfl ?_
          refine aw_ialdv (x := mi 81 i) SH_81 (by decide) ⟨by omega, by omega⟩ (by (rw [aup_a (by decide), aup_a (by decide)]) <;> rfl) dX7_carriesOut_111 (fun r111 => ?_)
          refine aw_aload_n (i := 0) (q := 0) dX7_carriesOut_112 rfl rfl ?_
          refine aw_getR (r := 82) flX7_87 SH_58 (by decide) rfl (rk_58_38 hR) dX7_carriesOut_113 ?_
          refine aw_iload_n (i := 1) (q := 1) dX7_carriesOut_116 rfl rfl ?_
          refine aw_ialdv (x := mi 82 i) SH_82 (by decide) ⟨by omega, by omega⟩ (by (rw [aup_a (by decide), aup_a (by decide)]) <;> rfl) dX7_carriesOut_117 (fun r117 => ?_)
          refine aw_iadd dX7_carriesOut_118 ?_
          refine aw_iast SH_81 (by decide) ⟨by omega, by omega⟩ (by first | assumption | omega) dX7_carriesOut_119 ?_
          refine aw_iconst dX7_carriesOut_120 ?_
          exact aw_iret ⟨_, rfl, rfl, rfl, -1, mi, Or.inl ⟨by omega, rfl, rfl⟩, Or.inr ⟨rfl, by omega, by omega, by unfold mcA; first | (rw [if_pos (by omega)]; try rw [g81, g82]) | (rw [if_neg (by omega)]; try rw [g81, g82])⟩⟩ (Nat.le_refl _) (Nat.le_refl _) dX7_carriesOut_121
        · refine aw_iconst dX7_carriesOut_103 ?_
          exact aw_iret ⟨_, rfl, rfl, rfl, -1, mi, Or.inl ⟨by omega, rfl, rfl⟩, Or.inl ⟨rfl, by omega, by unfold mcA; first | rw [if_pos (by omega)] | rw [if_neg (by omega)]⟩⟩ (Nat.le_refl _) (Nat.le_refl _) dX7_carriesOut_104
