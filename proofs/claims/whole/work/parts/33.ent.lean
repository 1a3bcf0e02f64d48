-- part 33: addEntry, removeEntry, dueTime, lastShift, amplitudeAfter, turnsUntilLoud (printed by wip/whole/gen/p33.py)
theorem s_X6_addEntry {mr : aR} (hR : Rok mr) {mi : aM} {w T P s W : Int} (h_w : -2147483648 ≤ w ∧ w ≤ 2147483647) (h_T : -2147483648 ≤ T ∧ T ≤ 2147483647) (h_P : -2147483648 ≤ P ∧ P ≤ 2147483647) (h_s : -2147483648 ≤ s ∧ s ≤ 2147483647) (h_W : -2147483648 ≤ W ∧ W ≤ 2147483647) {E : Int → Nat} (hen : enI mr E) (h8 : 0 ≤ mi 1 12 ∧ mi 1 12 ≤ 8) : SPg yX6_addEntry cX6_addEntry 7 (some .int) 2 [.ref 1, iI w, iI T, iI P, iI s, iI W] mi mr (Pi mr (fun r m => r = (if 0 ≤ w ∧ w < 5 then (if ((0 ≤ T ∧ T ≤ 100000) ∧ (P = 0 ∨ (200 ≤ P ∧ P ≤ 50000)) ∧ (1 ≤ s ∧ s ≤ 200) ∧ (0 ≤ W ∧ W ≤ 500)) then (if mi 1 12 < 8 then mi 1 12 else -4) else -3) else -2) ∧ (r < 0 → m = mi) ∧ (0 ≤ r → m = aup (aup (aup (aup (aup (aup (aup mi (E (mi 1 12)) 0 w) (E (mi 1 12)) 1 T) (E (mi 1 12)) 2 P) (E (mi 1 12)) 3 s) (E (mi 1 12)) 4 W) (E (mi 1 12)) 5 (-1)) 1 12 (mi 1 12 + 1)))) := by
  refine SPg.int rfl (by decide +kernel) (Nat.le_of_ble_eq_true rfl) ?_
  show AWm RX6 cX6_addEntry 7 2 _ 0 [(0, .ref 1), (1, iI w), (2, iI T), (3, iI P), (4, iI s), (5, iI W)] [] mi mr
  refine aw_iload_n (i := 1) (q := 1) dX6_addEntry_0 rfl rfl ?_
  refine aw_cSp (As := [iI w]) (st := []) clX6_181 (s_X6_isPattern hR (by omega)) rfl rfl (Nat.le_of_ble_eq_true rfl) (by decide) (by decide) (Nat.le_refl _) (Nat.le_refl _) dX6_addEntry_1 (fun v1 hv1 => ?_)
  refine aw_if_ne (tgt := 10) dX6_addEntry_4 (by decide) (by first | assumption | omega) (fun c4 => ?_) (fun c4 => ?_)
  · refine aw_iload_n (i := 2) (q := 2) dX6_addEntry_10 rfl rfl ?_
    refine aw_iconst dX6_addEntry_11 ?_
    refine aw_ldc (x := 100000) coX6_107 rfl dX6_addEntry_12 ?_
    refine aw_cSp (As := [iI T, iI 0, iI 100000]) (st := []) clX6_87 (s_X6_outside hR (by omega) (by omega) (by omega)) rfl rfl (Nat.le_of_ble_eq_true rfl) (by decide) (by decide) (Nat.le_refl _) (Nat.le_refl _) dX6_addEntry_14 (fun v14 hv14 => ?_)
    refine aw_if_ne (tgt := 60) dX6_addEntry_17 (by decide) (by first | assumption | omega) (fun c17 => ?_) (fun c17 => ?_)
    · refine aw_bipush (x := -3) dX6_addEntry_60 rfl ?_
      exact aw_iret ⟨_, rfl, rfl, rfl, (by (repeat' split) <;> omega), (fun _ => rfl), (fun h => by omega)⟩ (Nat.le_refl _) (Nat.le_refl _) dX6_addEntry_62
    · refine aw_iload_n (i := 3) (q := 3) dX6_addEntry_20 rfl rfl ?_
      refine aw_if_eq (tgt := 36) dX6_addEntry_21 (by decide) (by first | assumption | omega) (fun c21 => ?_) (fun c21 => ?_)
      · refine aw_iload (i := 4) (q := 4) dX6_addEntry_36 rfl ?_
        refine aw_iconst dX6_addEntry_38 ?_
        refine aw_sipush (x := 200) dX6_addEntry_39 rfl ?_
        refine aw_cSp (As := [iI s, iI 1, iI 200]) (st := []) clX6_87 (s_X6_outside hR (by omega) (by omega) (by omega)) rfl rfl (Nat.le_of_ble_eq_true rfl) (by decide) (by decide) (Nat.le_refl _) (Nat.le_refl _) dX6_addEntry_42 (fun v42 hv42 => ?_)
        refine aw_if_ne (tgt := 60) dX6_addEntry_45 (by decide) (by first | assumption | omega) (fun c45 => ?_) (fun c45 => ?_)
        · refine aw_bipush (x := -3) dX6_addEntry_60 rfl ?_
          exact aw_iret ⟨_, rfl, rfl, rfl, (by (repeat' split) <;> omega), (fun _ => rfl), (fun h => by omega)⟩ (Nat.le_refl _) (Nat.le_refl _) dX6_addEntry_62
        · refine aw_iload (i := 5) (q := 5) dX6_addEntry_48 rfl ?_
          refine aw_iconst dX6_addEntry_50 ?_
          refine aw_sipush (x := 500) dX6_addEntry_51 rfl ?_
          refine aw_cSp (As := [iI W, iI 0, iI 500]) (st := []) clX6_87 (s_X6_outside hR (by omega) (by omega) (by omega)) rfl rfl (Nat.le_of_ble_eq_true rfl) (by decide) (by decide) (Nat.le_refl _) (Nat.le_refl _) dX6_addEntry_54 (fun v54 hv54 => ?_)
          refine aw_if_eq (tgt := 63) dX6_addEntry_57 (by decide) (by first | assumption | omega) (fun c57 => ?_) (fun c57 => ?_)
          · refine aw_aload_n (i := 0) (q := 0) dX6_addEntry_63 rfl rfl ?_
            refine aw_getIk (x := mi 1 12) 12 flX6_70 SH_1 (by decide) rfl rfl rfl dX6_addEntry_64 (fun r64 => ?_)
            refine aw_bipush (x := 8) dX6_addEntry_67 rfl ?_
            refine aw_icmp_lt (tgt := 75) dX6_addEntry_69 (by decide) (by first | assumption | omega) (by decide) (fun c69 => ?_) (fun c69 => ?_)
            · refine aw_aload_n (i := 0) (q := 0) dX6_addEntry_75 rfl rfl ?_
              refine aw_getR (r := 24) flX6_52 SH_1 (by decide) rfl (rk_1_7 hR) dX6_addEntry_76 ?_
              refine aw_aload_n (i := 0) (q := 0) dX6_addEntry_79 rfl rfl ?_
              refine aw_getIk (x := mi 1 12) 12 flX6_70 SH_1 (by decide) rfl rfl rfl dX6_addEntry_80 (fun r80 => ?_)
              refine aw_aald (r := E (mi 1 12)) SH_24 (by decide) (by decide) ⟨by omega, by omega⟩ (hen.1 (mi 1 12) (by omega) (by omega)).1 dX6_addEntry_83 ?_
              have he := (hen.1 (mi 1 12) (by omega) (by omega)).2
              refine aw_astore (i := 6) (lv' := [(0, .ref 1), (1, iI w), (2, iI T), (3, iI P), (4, iI s), (5, iI W), (6, .ref (E (mi 1 12)))]) [1, 2, 3, 4, 5, 6, 0] dX6_addEntry_84 (by decide) rfl ?_
              refine aw_aload (i := 6) (q := 6) dX6_addEntry_86 rfl ?_
              refine aw_iload_n (i := 1) (q := 1) dX6_addEntry_88 rfl rfl ?_
              refine aw_putIk 0 flX6_240 (SH_en he) (ee_rng he) rfl rfl rfl (by first | assumption | omega) dX6_addEntry_89 ?_
              refine aw_aload (i := 6) (q := 6) dX6_addEntry_92 rfl ?_
              refine aw_iload_n (i := 2) (q := 2) dX6_addEntry_94 rfl rfl ?_
              refine aw_putIk 1 flX6_243 (SH_en he) (ee_rng he) rfl rfl rfl (by first | assumption | omega) dX6_addEntry_95 ?_
              refine aw_aload (i := 6) (q := 6) dX6_addEntry_98 rfl ?_
              refine aw_iload_n (i := 3) (q := 3) dX6_addEntry_100 rfl rfl ?_
              refine aw_putIk 2 flX6_246 (SH_en he) (ee_rng he) rfl rfl rfl (by first | assumption | omega) dX6_addEntry_101 ?_
              refine aw_aload (i := 6) (q := 6) dX6_addEntry_104 rfl ?_
              refine aw_iload (i := 4) (q := 4) dX6_addEntry_106 rfl ?_
              refine aw_putIk 3 flX6_249 (SH_en he) (ee_rng he) rfl rfl rfl (by first | assumption | omega) dX6_addEntry_108 ?_
              refine aw_aload (i := 6) (q := 6) dX6_addEntry_111 rfl ?_
              refine aw_iload (i := 5) (q := 5) dX6_addEntry_113 rfl ?_
              refine aw_putIk 4 flX6_252 (SH_en he) (ee_rng he) rfl rfl rfl (by first | assumption | omega) dX6_addEntry_115 ?_
              refine aw_aload (i := 6) (q := 6) dX6_addEntry_118 rfl ?_
              refine aw_iconst dX6_addEntry_120 ?_
              refine aw_putIk 5 flX6_255 (SH_en he) (ee_rng he) rfl rfl rfl (by decide) dX6_addEntry_121 ?_
              refine aw_aload_n (i := 0) (q := 0) dX6_addEntry_124 rfl rfl ?_
              refine aw_dup dX6_addEntry_125 rfl ?_
              refine aw_getIk (x := mi 1 12) 12 flX6_70 SH_1 (by decide) rfl rfl (by (rw [aup_k (by decide), aup_k (by decide), aup_k (by decide), aup_k (by decide), aup_k (by decide), aup_k (by decide)]) <;> rfl) dX6_addEntry_126 (fun r126 => ?_)
              refine aw_iconst dX6_addEntry_129 ?_
              refine aw_iadd dX6_addEntry_130 ?_
              refine aw_putIk 12 flX6_70 SH_1 (by decide) rfl rfl rfl (by first | assumption | omega) dX6_addEntry_131 ?_
              refine aw_aload_n (i := 0) (q := 0) dX6_addEntry_134 rfl rfl ?_
              refine aw_getIk (x := (mi 1 12) + 1) 12 flX6_70 SH_1 (by decide) rfl rfl (by (rw [aup_eq]) <;> rfl) dX6_addEntry_135 (fun r135 => ?_)
              refine aw_iconst dX6_addEntry_138 ?_
              refine aw_isub dX6_addEntry_139 ?_
              exact aw_iret ⟨_, rfl, rfl, rfl, (by (repeat' split) <;> omega), (fun h => by omega), (fun _ => rfl)⟩ (Nat.le_refl _) (Nat.le_refl _) dX6_addEntry_140
            · refine aw_bipush (x := -4) dX6_addEntry_72 rfl ?_
              exact aw_iret ⟨_, rfl, rfl, rfl, (by (repeat' split) <;> omega), (fun _ => rfl), (fun h => by omega)⟩ (Nat.le_refl _) (Nat.le_refl _) dX6_addEntry_74
          · refine aw_bipush (x := -3) dX6_addEntry_60 rfl ?_
            exact aw_iret ⟨_, rfl, rfl, rfl, (by (repeat' split) <;> omega), (fun _ => rfl), (fun h => by omega)⟩ (Nat.le_refl _) (Nat.le_refl _) dX6_addEntry_62
      · refine aw_iload_n (i := 3) (q := 3) dX6_addEntry_24 rfl rfl ?_
        refine aw_sipush (x := 200) dX6_addEntry_25 rfl ?_
        refine aw_ldc (x := 50000) coX6_239 rfl dX6_addEntry_28 ?_
        refine aw_cSp (As := [iI P, iI 200, iI 50000]) (st := []) clX6_87 (s_X6_outside hR (by omega) (by omega) (by omega)) rfl rfl (Nat.le_of_ble_eq_true rfl) (by decide) (by decide) (Nat.le_refl _) (Nat.le_refl _) dX6_addEntry_30 (fun v30 hv30 => ?_)
        refine aw_if_ne (tgt := 60) dX6_addEntry_33 (by decide) (by first | assumption | omega) (fun c33 => ?_) (fun c33 => ?_)
        · refine aw_bipush (x := -3) dX6_addEntry_60 rfl ?_
          exact aw_iret ⟨_, rfl, rfl, rfl, (by (repeat' split) <;> omega), (fun _ => rfl), (fun h => by omega)⟩ (Nat.le_refl _) (Nat.le_refl _) dX6_addEntry_62
        · refine aw_iload (i := 4) (q := 4) dX6_addEntry_36 rfl ?_
          refine aw_iconst dX6_addEntry_38 ?_
          refine aw_sipush (x := 200) dX6_addEntry_39 rfl ?_
          refine aw_cSp (As := [iI s, iI 1, iI 200]) (st := []) clX6_87 (s_X6_outside hR (by omega) (by omega) (by omega)) rfl rfl (Nat.le_of_ble_eq_true rfl) (by decide) (by decide) (Nat.le_refl _) (Nat.le_refl _) dX6_addEntry_42 (fun v42 hv42 => ?_)
          refine aw_if_ne (tgt := 60) dX6_addEntry_45 (by decide) (by first | assumption | omega) (fun c45 => ?_) (fun c45 => ?_)
          · refine aw_bipush (x := -3) dX6_addEntry_60 rfl ?_
            exact aw_iret ⟨_, rfl, rfl, rfl, (by (repeat' split) <;> omega), (fun _ => rfl), (fun h => by omega)⟩ (Nat.le_refl _) (Nat.le_refl _) dX6_addEntry_62
          · refine aw_iload (i := 5) (q := 5) dX6_addEntry_48 rfl ?_
            refine aw_iconst dX6_addEntry_50 ?_
            refine aw_sipush (x := 500) dX6_addEntry_51 rfl ?_
            refine aw_cSp (As := [iI W, iI 0, iI 500]) (st := []) clX6_87 (s_X6_outside hR (by omega) (by omega) (by omega)) rfl rfl (Nat.le_of_ble_eq_true rfl) (by decide) (by decide) (Nat.le_refl _) (Nat.le_refl _) dX6_addEntry_54 (fun v54 hv54 => ?_)
            refine aw_if_eq (tgt := 63) dX6_addEntry_57 (by decide) (by first | assumption | omega) (fun c57 => ?_) (fun c57 => ?_)
            · refine aw_aload_n (i := 0) (q := 0) dX6_addEntry_63 rfl rfl ?_
              refine aw_getIk (x := mi 1 12) 12 flX6_70 SH_1 (by decide) rfl rfl rfl dX6_addEntry_64 (fun r64 => ?_)
              refine aw_bipush (x := 8) dX6_addEntry_67 rfl ?_
              refine aw_icmp_lt (tgt := 75) dX6_addEntry_69 (by decide) (by first | assumption | omega) (by decide) (fun c69 => ?_) (fun c69 => ?_)
              · refine aw_aload_n (i := 0) (q := 0) dX6_addEntry_75 rfl rfl ?_
                refine aw_getR (r := 24) flX6_52 SH_1 (by decide) rfl (rk_1_7 hR) dX6_addEntry_76 ?_
                refine aw_aload_n (i := 0) (q := 0) dX6_addEntry_79 rfl rfl ?_
                refine aw_getIk (x := mi 1 12) 12 flX6_70 SH_1 (by decide) rfl rfl rfl dX6_addEntry_80 (fun r80 => ?_)
                refine aw_aald (r := E (mi 1 12)) SH_24 (by decide) (by decide) ⟨by omega, by omega⟩ (hen.1 (mi 1 12) (by omega) (by omega)).1 dX6_addEntry_83 ?_
                have he := (hen.1 (mi 1 12) (by omega) (by omega)).2
                refine aw_astore (i := 6) (lv' := [(0, .ref 1), (1, iI w), (2, iI T), (3, iI P), (4, iI s), (5, iI W), (6, .ref (E (mi 1 12)))]) [1, 2, 3, 4, 5, 6, 0] dX6_addEntry_84 (by decide) rfl ?_
                refine aw_aload (i := 6) (q := 6) dX6_addEntry_86 rfl ?_
                refine aw_iload_n (i := 1) (q := 1) dX6_addEntry_88 rfl rfl ?_
                refine aw_putIk 0 flX6_240 (SH_en he) (ee_rng he) rfl rfl rfl (by first | assumption | omega) dX6_addEntry_89 ?_
                refine aw_aload (i := 6) (q := 6) dX6_addEntry_92 rfl ?_
                refine aw_iload_n (i := 2) (q := 2) dX6_addEntry_94 rfl rfl ?_
                refine aw_putIk 1 flX6_243 (SH_en he) (ee_rng he) rfl rfl rfl (by first | assumption | omega) dX6_addEntry_95 ?_
                refine aw_aload (i := 6) (q := 6) dX6_addEntry_98 rfl ?_
                refine aw_iload_n (i := 3) (q := 3) dX6_addEntry_100 rfl rfl ?_
                refine aw_putIk 2 flX6_246 (SH_en he) (ee_rng he) rfl rfl rfl (by first | assumption | omega) dX6_addEntry_101 ?_
                refine aw_aload (i := 6) (q := 6) dX6_addEntry_104 rfl ?_
                refine aw_iload (i := 4) (q := 4) dX6_addEntry_106 rfl ?_
                refine aw_putIk 3 flX6_249 (SH_en he) (ee_rng he) rfl rfl rfl (by first | assumption | omega) dX6_addEntry_108 ?_
                refine aw_aload (i := 6) (q := 6) dX6_addEntry_111 rfl ?_
                refine aw_iload (i := 5) (q := 5) dX6_addEntry_113 rfl ?_
                refine aw_putIk 4 flX6_252 (SH_en he) (ee_rng he) rfl rfl rfl (by first | assumption | omega) dX6_addEntry_115 ?_
                refine aw_aload (i := 6) (q := 6) dX6_addEntry_118 rfl ?_
                refine aw_iconst dX6_addEntry_120 ?_
                refine aw_putIk 5 flX6_255 (SH_en he) (ee_rng he) rfl rfl rfl (by decide) dX6_addEntry_121 ?_
                refine aw_aload_n (i := 0) (q := 0) dX6_addEntry_124 rfl rfl ?_
                refine aw_dup dX6_addEntry_125 rfl ?_
                refine aw_getIk (x := mi 1 12) 12 flX6_70 SH_1 (by decide) rfl rfl (by (rw [aup_k (by decide), aup_k (by decide), aup_k (by decide), aup_k (by decide), aup_k (by decide), aup_k (by decide)]) <;> rfl) dX6_addEntry_126 (fun r126 => ?_)
                refine aw_iconst dX6_addEntry_129 ?_
                refine aw_iadd dX6_addEntry_130 ?_
                refine aw_putIk 12 flX6_70 SH_1 (by decide) rfl rfl rfl (by first | assumption | omega) dX6_addEntry_131 ?_
                refine aw_aload_n (i := 0) (q := 0) dX6_addEntry_134 rfl rfl ?_
                refine aw_getIk (x := (mi 1 12) + 1) 12 flX6_70 SH_1 (by decide) rfl rfl (by (rw [aup_eq]) <;> rfl) dX6_addEntry_135 (fun r135 => ?_)
                refine aw_iconst dX6_addEntry_138 ?_
                refine aw_isub dX6_addEntry_139 ?_
                exact aw_iret ⟨_, rfl, rfl, rfl, (by (repeat' split) <;> omega), (fun h => by omega), (fun _ => rfl)⟩ (Nat.le_refl _) (Nat.le_refl _) dX6_addEntry_140
              · refine aw_bipush (x := -4) dX6_addEntry_72 rfl ?_
                exact aw_iret ⟨_, rfl, rfl, rfl, (by (repeat' split) <;> omega), (fun _ => rfl), (fun h => by omega)⟩ (Nat.le_refl _) (Nat.le_refl _) dX6_addEntry_74
            · refine aw_bipush (x := -3) dX6_addEntry_60 rfl ?_
              exact aw_iret ⟨_, rfl, rfl, rfl, (by (repeat' split) <;> omega), (fun _ => rfl), (fun h => by omega)⟩ (Nat.le_refl _) (Nat.le_refl _) dX6_addEntry_62
  · refine aw_bipush (x := -2) dX6_addEntry_7 rfl ?_
    exact aw_iret ⟨_, rfl, rfl, rfl, (by (repeat' split) <;> omega), (fun _ => rfl), (fun h => by omega)⟩ (Nat.le_refl _) (Nat.le_refl _) dX6_addEntry_9
theorem s_X6_dueTime {mr : aR} (hR : Rok mr) {mi : aM} {i : Int} (h_i : -2147483648 ≤ i ∧ i ≤ 2147483647) {E : Int → Nat} (hen : enI mr E) (h8 : 0 ≤ mi 1 12 ∧ mi 1 12 ≤ 8) : SPg yX6_dueTime cX6_dueTime 2 (some .int) 2 [.ref 1, iI i] mi mr (Pp mi mr (fun r => r = if 0 ≤ i ∧ i < mi 1 12 then mi (E i) 1 else -2)) := by
  refine SPg.pure rfl (by decide +kernel) (Nat.le_of_ble_eq_true rfl) ?_
  show AWm RX6 cX6_dueTime 2 2 _ 0 [(0, .ref 1), (1, iI i)] [] mi mr
  refine aw_aload_n (i := 0) (q := 0) dX6_dueTime_0 rfl rfl ?_
  refine aw_iload_n (i := 1) (q := 1) dX6_dueTime_1 rfl rfl ?_
  refine aw_cVp (As := [iI i]) (st := []) clX6_258 (s_X6_isEntry hR (by omega)) SH_1 rfl (by decide) rfl rfl (Nat.le_of_ble_eq_true rfl) (by decide) (by decide) (Nat.le_refl _) (Nat.le_refl _) dX6_dueTime_2 (fun v2 hv2 => ?_)
  refine aw_if_eq (tgt := 20) dX6_dueTime_5 (by decide) (by first | assumption | omega) (fun c5 => ?_) (fun c5 => ?_)
  · refine aw_bipush (x := -2) dX6_dueTime_20 rfl ?_
    exact aw_iret ⟨_, rfl, rfl, rfl, rfl, (by (repeat' split) <;> omega)⟩ (Nat.le_refl _) (Nat.le_refl _) dX6_dueTime_22
  · refine aw_aload_n (i := 0) (q := 0) dX6_dueTime_8 rfl rfl ?_
    refine aw_getR (r := 24) flX6_52 SH_1 (by decide) rfl (rk_1_7 hR) dX6_dueTime_9 ?_
    refine aw_iload_n (i := 1) (q := 1) dX6_dueTime_12 rfl rfl ?_
    refine aw_aald (r := E i) SH_24 (by decide) (by decide) ⟨by omega, by omega⟩ (hen.1 (i) (by omega) (by omega)).1 dX6_dueTime_13 ?_
    refine aw_getIk (x := mi (E i) 1) 1 flX6_243 (SH_en (hen.1 i (by omega) (by omega)).2) (ee_rng (hen.1 i (by omega) (by omega)).2) rfl rfl rfl dX6_dueTime_14 (fun r14 => ?_)
    refine aw_goto (tgt := 22) dX6_dueTime_17 (by decide) ?_
    exact aw_iret ⟨_, rfl, rfl, rfl, rfl, (by (repeat' split) <;> omega)⟩ (Nat.le_refl _) (Nat.le_refl _) dX6_dueTime_22
theorem s_X6_lastShift {mr : aR} (hR : Rok mr) {mi : aM} {i : Int} (h_i : -2147483648 ≤ i ∧ i ≤ 2147483647) {E : Int → Nat} (hen : enI mr E) (h8 : 0 ≤ mi 1 12 ∧ mi 1 12 ≤ 8) : SPg yX6_lastShift cX6_lastShift 2 (some .int) 2 [.ref 1, iI i] mi mr (Pp mi mr (fun r => r = if 0 ≤ i ∧ i < mi 1 12 then mi (E i) 5 else -2)) := by
  refine SPg.pure rfl (by decide +kernel) (Nat.le_of_ble_eq_true rfl) ?_
  show AWm RX6 cX6_lastShift 2 2 _ 0 [(0, .ref 1), (1, iI i)] [] mi mr
  refine aw_aload_n (i := 0) (q := 0) dX6_lastShift_0 rfl rfl ?_
  refine aw_iload_n (i := 1) (q := 1) dX6_lastShift_1 rfl rfl ?_
  refine aw_cVp (As := [iI i]) (st := []) clX6_258 (s_X6_isEntry hR (by omega)) SH_1 rfl (by decide) rfl rfl (Nat.le_of_ble_eq_true rfl) (by decide) (by decide) (Nat.le_refl _) (Nat.le_refl _) dX6_lastShift_2 (fun v2 hv2 => ?_)
  refine aw_if_eq (tgt := 20) dX6_lastShift_5 (by decide) (by first | assumption | omega) (fun c5 => ?_) (fun c5 => ?_)
  · refine aw_bipush (x := -2) dX6_lastShift_20 rfl ?_
    exact aw_iret ⟨_, rfl, rfl, rfl, rfl, (by (repeat' split) <;> omega)⟩ (Nat.le_refl _) (Nat.le_refl _) dX6_lastShift_22
  · refine aw_aload_n (i := 0) (q := 0) dX6_lastShift_8 rfl rfl ?_
    refine aw_getR (r := 24) flX6_52 SH_1 (by decide) rfl (rk_1_7 hR) dX6_lastShift_9 ?_
    refine aw_iload_n (i := 1) (q := 1) dX6_lastShift_12 rfl rfl ?_
    refine aw_aald (r := E i) SH_24 (by decide) (by decide) ⟨by omega, by omega⟩ (hen.1 (i) (by omega) (by omega)).1 dX6_lastShift_13 ?_
    refine aw_getIk (x := mi (E i) 5) 5 flX6_255 (SH_en (hen.1 i (by omega) (by omega)).2) (ee_rng (hen.1 i (by omega) (by omega)).2) rfl rfl rfl dX6_lastShift_14 (fun r14 => ?_)
    refine aw_goto (tgt := 22) dX6_lastShift_17 (by decide) ?_
    exact aw_iret ⟨_, rfl, rfl, rfl, rfl, (by (repeat' split) <;> omega)⟩ (Nat.le_refl _) (Nat.le_refl _) dX6_lastShift_22
theorem s_X6_removeEntry {mr : aR} (hR : Rok mr) {mi : aM} {i : Int} (h_i : -2147483648 ≤ i ∧ i ≤ 2147483647) {E : Int → Nat} (hen : enI mr E) (h8 : 0 ≤ mi 1 12 ∧ mi 1 12 ≤ 8) : SPg yX6_removeEntry cX6_removeEntry 2 (some .int) 2 [.ref 1, iI i] mi mr (Pg (fun r m q => (¬ (0 ≤ i ∧ i < mi 1 12) ∧ r = -2 ∧ m = mi ∧ q = mr) ∨ ((0 ≤ i ∧ i < mi 1 12) ∧ r = mi 1 12 - 1 ∧ m = aup mi 1 12 (mi 1 12 - 1) ∧ fr24 mr q ∧ ∀ j : Int, 0 ≤ j → j < 8 → q 24 j = some (edr i (mi 1 12) E j)))) := by
  refine SPg.gint rfl (by decide +kernel) (Nat.le_of_ble_eq_true rfl) ?_
  show AWm RX6 cX6_removeEntry 2 2 _ 0 [(0, .ref 1), (1, iI i)] [] mi mr
  refine aw_aload_n (i := 0) (q := 0) dX6_removeEntry_0 rfl rfl ?_
  refine aw_iload_n (i := 1) (q := 1) dX6_removeEntry_1 rfl rfl ?_
  refine aw_cVp (As := [iI i]) (st := []) clX6_258 (s_X6_isEntry hR (by omega)) SH_1 rfl (by decide) rfl rfl (Nat.le_of_ble_eq_true rfl) (by decide) (by decide) (Nat.le_refl _) (Nat.le_refl _) dX6_removeEntry_2 (fun v2 hv2 => ?_)
  refine aw_if_ne (tgt := 11) dX6_removeEntry_5 (by decide) (by first | assumption | omega) (fun c5 => ?_) (fun c5 => ?_)
  · refine aw_aload_n (i := 0) (q := 0) dX6_removeEntry_11 rfl rfl ?_
    refine aw_iload_n (i := 1) (q := 1) dX6_removeEntry_12 rfl rfl ?_
    refine aw_cVw (As := [iI i]) (st := []) clX6_261 (s_X6_dropEntry hR hen ⟨by omega, by omega⟩ (by omega)) SH_1 rfl (by decide) rfl rfl (Nat.le_of_ble_eq_true rfl) (by decide) (by decide) (Nat.le_refl _) (Nat.le_refl _) dX6_removeEntry_13 (fun m2 r2 hd2 => ?_)
    have g12 : m2 1 12 = mi 1 12 - 1 := by rw [hd2.1]; exact aup_eq _ _ _ _
    refine aw_aload_n (i := 0) (q := 0) dX6_removeEntry_16 rfl rfl ?_
    refine aw_getIk (x := m2 1 12) 12 flX6_70 SH_1 (by decide) rfl rfl rfl dX6_removeEntry_17 (fun r17 => ?_)
    exact aw_iret ⟨_, rfl, rfl, Or.inr ⟨⟨by omega, by omega⟩, g12, hd2⟩⟩ (Nat.le_refl _) (Nat.le_refl _) dX6_removeEntry_20
  · refine aw_bipush (x := -2) dX6_removeEntry_8 rfl ?_
    exact aw_iret ⟨_, rfl, rfl, Or.inl ⟨by omega, rfl, rfl, rfl⟩⟩ (Nat.le_refl _) (Nat.le_refl _) dX6_removeEntry_10
/-- the amplitude behind n turns -/
def ampF (amp motor aim : Int) : Nat → Int
  | 0 => amp
  | n + 1 => trn (ampF amp motor aim n) motor aim
def fr3 (mi m : aM) : Prop := ∀ (x : Nat) (j : Int), x ≠ 3 → m x j = mi x j
/-- the imagined bell -/
def imO (m : aM) : Prop := (1 ≤ m 3 2 ∧ m 3 2 ≤ 99) ∧ (10 ≤ m 3 3 ∧ m 3 3 ≤ 60) ∧ (m 3 6 = 0 ∨ m 3 6 = 1) ∧ (m 3 7 = 0 ∨ m 3 7 = 1) ∧ (0 ≤ m 3 8 ∧ m 3 8 ≤ 1000) ∧ (m 3 9 = 1 ∨ m 3 9 = -1) ∧ (0 ≤ m 3 10 ∧ m 3 10 ≤ 1000) ∧ (0 ≤ m 3 11 ∧ m 3 11 ≤ 200000)
theorem imO_tn {m : aM} (h : imO m) (hl : m 3 11 ≤ 190000) : imO (tnA m 3) := by
  obtain ⟨h2, h3, h6, h7, h8, h9, h10, h11⟩ := h
  have k := trn_rng (motor := m 3 7) h8 h10
  unfold imO
  rw [tnA_8, tnA_9, tnA_11, tnA_6, tnA_k (j := 2) (by decide), tnA_k (j := 3) (by decide), tnA_k (j := 7) (by decide), tnA_k (j := 10) (by decide)]
  refine ⟨h2, h3, ?_, h7, k, by omega, h10, by omega⟩
  split
  · exact Or.inl rfl
  · exact h6
theorem l_aaft {mr : aR} (hR : Rok mr) {mi : aM} {b n9 : Int} (hb : 0 ≤ b ∧ b < mi 1 11) (hn9 : 0 ≤ n9 ∧ n9 ≤ 200) (hsw : mi (28 + b.toNat) 6 ≠ 0) : ∀ (n : Nat) (m : aM) (z : Int) (i : Nat), imO m → fr3 mi m → m 3 11 ≤ 100000 + 60 * (z - 1) → m 3 7 = mi (28 + b.toNat) 7 → m 3 10 = mi (28 + b.toNat) 10 → m 3 8 = ampF (mi (28 + b.toNat) 8) (mi (28 + b.toNat) 7) (mi (28 + b.toNat) 10) i → z = (i : Int) + 1 → (1 ≤ z ∧ z ≤ n9 + 1) → n9 + 1 - z < n → AWm RX6 cX6_amplitudeAfter 4 4 (Pi mr (fun r m => fr3 mi m ∧ r = if 0 ≤ b ∧ b < mi 1 11 then (if 0 ≤ n9 ∧ n9 ≤ 200 then (if mi (28 + b.toNat) 6 = 0 then -1 else ampF (mi (28 + b.toNat) 8) (mi (28 + b.toNat) 7) (mi (28 + b.toNat) 10) n9.toNat) else -3) else -2)) 54 [(0, .ref 1), (1, iI b), (2, iI n9), (3, iI z)] [] m mr := by
  intro n
  induction n with
  | zero => intro m z i him hf hl ha7 ha10 ha8 hz h2 h3; omega
  | succ n ih =>
    intro m z i him hf hl ha7 ha10 ha8 hz h2 h3
    have h38 := him.2.2.2.2.1
    have h33 := him.2.1
    refine aw_iload_n (i := 3) (q := 3) dX6_amplitudeAfter_54 rfl rfl ?_
    refine aw_iload_n (i := 2) (q := 2) dX6_amplitudeAfter_55 rfl rfl ?_
    refine aw_icmp_gt (tgt := 72) dX6_amplitudeAfter_56 (by decide) (by first | assumption | omega) (by first | assumption | omega) (fun c56 => ?_) (fun c56 => ?_)
    · refine aw_aload_n (i := 0) (q := 0) dX6_amplitudeAfter_72 rfl rfl ?_
      refine aw_getR (r := 3) flX6_16 SH_1 (by decide) rfl (rk_1_1 hR) dX6_amplitudeAfter_73 ?_
      refine aw_getIk (x := m 3 8) 8 flX6_287 SH_3 (by decide) rfl rfl rfl dX6_amplitudeAfter_76 (fun r76 => ?_)
      exact aw_iret ⟨_, rfl, rfl, rfl, hf, by rw [if_pos hb, if_pos hn9, if_neg hsw, ha8, show i = n9.toNat by omega]⟩ (Nat.le_refl _) (Nat.le_refl _) dX6_amplitudeAfter_79
    · refine aw_aload_n (i := 0) (q := 0) dX6_amplitudeAfter_59 rfl rfl ?_
      refine aw_getR (r := 3) flX6_16 SH_1 (by decide) rfl (rk_1_1 hR) dX6_amplitudeAfter_60 ?_
      refine aw_cVv (As := []) (st := []) clX6_293 (s_X0_turn (mi := m) hR SH_3 (by decide) him) SH_3 rfl (by decide) rfl rfl (Nat.le_of_ble_eq_true rfl) (by decide) (by decide) (Nat.le_refl _) (Nat.le_refl _) dX6_amplitudeAfter_63 (fun m2 hm2 => ?_)
      have hq := tnA_eq hm2
      have him2 := imO_tn him (by omega)
      rw [← hq] at him2
      have h11 : m2 3 11 = m 3 11 + m 3 3 := hm2.2.2.1
      have h8 : m2 3 8 = trn (m 3 8) (m 3 7) (m 3 10) := hm2.1
      have h7 : m2 3 7 = m 3 7 := by rw [hq]; exact tnA_k (by decide) _
      have h10 : m2 3 10 = m 3 10 := by rw [hq]; exact tnA_k (by decide) _
      have hf2 : fr3 mi m2 := fun x j hx => by rw [hq, tnA_o hx]; exact hf x j hx
      have h38 := him2.2.2.2.2.1
      refine aw_iinc (i := 3) (q := 3) (x := z) (lv' := [(0, .ref 1), (1, iI b), (2, iI n9), (3, iI (z + 1))]) [1, 2, 3, 0] dX6_amplitudeAfter_66 rfl (by decide) rfl ?_
      refine aw_goto (tgt := 54) dX6_amplitudeAfter_69 (by decide) ?_
      exact ih m2 (z + 1) (i + 1) him2 hf2 (by omega) (by omega) (by omega) (by rw [h8, ha8, ha7, ha10]; rfl) (by omega) (by omega) (by omega)
theorem s_X6_amplitudeAfter {mr : aR} (hR : Rok mr) {mi : aM} {b n9 : Int} (h_b : -2147483648 ≤ b ∧ b ≤ 2147483647) (h_n9 : -2147483648 ≤ n9 ∧ n9 ≤ 2147483647) (hc : cB mi) : SPg yX6_amplitudeAfter cX6_amplitudeAfter 4 (some .int) 4 [.ref 1, iI b, iI n9] mi mr (Pi mr (fun r m => fr3 mi m ∧ r = if 0 ≤ b ∧ b < mi 1 11 then (if 0 ≤ n9 ∧ n9 ≤ 200 then (if mi (28 + b.toNat) 6 = 0 then -1 else ampF (mi (28 + b.toNat) 8) (mi (28 + b.toNat) 7) (mi (28 + b.toNat) 10) n9.toNat) else -3) else -2)) := by
  refine SPg.int rfl (by decide +kernel) (Nat.le_of_ble_eq_true rfl) ?_
  show AWm RX6 cX6_amplitudeAfter 4 4 _ 0 [(0, .ref 1), (1, iI b), (2, iI n9)] [] mi mr
  have hn := hc.1
  have hnw := hc.2.1
  refine aw_aload_n (i := 0) (q := 0) dX6_amplitudeAfter_0 rfl rfl ?_
  refine aw_iload_n (i := 1) (q := 1) dX6_amplitudeAfter_1 rfl rfl ?_
  refine aw_cVp (As := [iI b]) (st := []) clX6_103 (s_X6_isBell hR (by omega)) SH_1 rfl (by decide) rfl rfl (Nat.le_of_ble_eq_true rfl) (by decide) (by decide) (Nat.le_refl _) (Nat.le_refl _) dX6_amplitudeAfter_2 (fun v2 hv2 => ?_)
  refine aw_if_ne (tgt := 11) dX6_amplitudeAfter_5 (by decide) (by first | assumption | omega) (fun c5 => ?_) (fun c5 => ?_)
  · refine aw_iload_n (i := 2) (q := 2) dX6_amplitudeAfter_11 rfl rfl ?_
    refine aw_iconst dX6_amplitudeAfter_12 ?_
    refine aw_sipush (x := 200) dX6_amplitudeAfter_13 rfl ?_
    refine aw_cSp (As := [iI n9, iI 0, iI 200]) (st := []) clX6_87 (s_X6_outside hR (by omega) (by omega) (by omega)) rfl rfl (Nat.le_of_ble_eq_true rfl) (by decide) (by decide) (Nat.le_refl _) (Nat.le_refl _) dX6_amplitudeAfter_16 (fun v16 hv16 => ?_)
    refine aw_if_eq (tgt := 25) dX6_amplitudeAfter_19 (by decide) (by first | assumption | omega) (fun c19 => ?_) (fun c19 => ?_)
    · obtain ⟨hk, hk11, -⟩ := hc.2.2 b.toNat (by omega)
      refine aw_aload_n (i := 0) (q := 0) dX6_amplitudeAfter_25 rfl rfl ?_
      refine aw_getR (r := 2) flX6_11 SH_1 (by decide) rfl (rk_1_0 hR) dX6_amplitudeAfter_26 ?_
      refine aw_iload_n (i := 1) (q := 1) dX6_amplitudeAfter_29 rfl rfl ?_
      refine aw_aald (r := 28 + (b).toNat) SH_2 (by decide) (by decide) ⟨by omega, by omega⟩ (hR.2.1 _ (by omega) (by omega)) dX6_amplitudeAfter_30 ?_
      refine aw_getIk (x := mi (28 + (b).toNat) 6) 6 flX6_162 (SH_bell ⟨by omega, by omega⟩) ⟨by omega, by omega⟩ rfl rfl rfl dX6_amplitudeAfter_31 (fun r31 => ?_)
      refine aw_if_ne (tgt := 39) dX6_amplitudeAfter_34 (by decide) (by first | assumption | omega) (fun c34 => ?_) (fun c34 => ?_)
      · refine aw_aload_n (i := 0) (q := 0) dX6_amplitudeAfter_39 rfl rfl ?_
        refine aw_getR (r := 3) flX6_16 SH_1 (by decide) rfl (rk_1_1 hR) dX6_amplitudeAfter_40 ?_
        refine aw_aload_n (i := 0) (q := 0) dX6_amplitudeAfter_43 rfl rfl ?_
        refine aw_getR (r := 2) flX6_11 SH_1 (by decide) rfl (rk_1_0 hR) dX6_amplitudeAfter_44 ?_
        refine aw_iload_n (i := 1) (q := 1) dX6_amplitudeAfter_47 rfl rfl ?_
        refine aw_aald (r := 28 + (b).toNat) SH_2 (by decide) (by decide) ⟨by omega, by omega⟩ (hR.2.1 _ (by omega) (by omega)) dX6_amplitudeAfter_48 ?_
        refine aw_cVv (As := [.ref (28 + (b).toNat)]) (st := []) clX6_267 (s_X0_copyFrom hR SH_3 (by decide) (SH_bell ⟨by omega, by omega⟩) ⟨by omega, by omega⟩ (by omega) hk.2.2.2.2.2.2.1 hk.2.2.2.2.2.2.2.1) SH_3 rfl (by decide) rfl rfl (Nat.le_of_ble_eq_true rfl) (by decide) (by decide) (Nat.le_refl _) (Nat.le_refl _) dX6_amplitudeAfter_49 (fun m1 hm1 => ?_)
        have him : imO m1 ∧ m1 3 11 ≤ 100000 ∧ fr3 mi m1 ∧ m1 3 8 = mi (28 + b.toNat) 8 ∧ m1 3 7 = mi (28 + b.toNat) 7 ∧ m1 3 10 = mi (28 + b.toNat) 10 := by
          obtain ⟨e2, e3, e6, e7, e8, e9, e10, e11, ef⟩ := hm1
          refine ⟨?_, by omega, fun x j hx => ef x j (Or.inl hx), e8, e7, e10⟩
          unfold imO
          rw [e2, e3, e6, e7, e8, e9, e10, e11]
          exact ⟨hk.2.2.1, hk.2.2.2.1, hk.2.2.2.2.2.2⟩
        refine aw_iconst dX6_amplitudeAfter_52 ?_
        refine aw_istore_n (i := 3) (lv' := [(0, .ref 1), (1, iI b), (2, iI n9), (3, iI 1)]) [1, 2, 3, 0] dX6_amplitudeAfter_53 rfl (by decide) rfl ?_
        exact l_aaft hR ⟨by omega, by omega⟩ ⟨by omega, by omega⟩ (by omega) (n9.toNat + 1) m1 1 0 him.1 him.2.2.1 (by omega) him.2.2.2.2.1 him.2.2.2.2.2 him.2.2.2.1 rfl (by omega) (by omega)
      · refine aw_iconst dX6_amplitudeAfter_37 ?_
        exact aw_iret ⟨_, rfl, rfl, rfl, (fun _ _ _ => rfl), (by (repeat' split) <;> omega)⟩ (Nat.le_refl _) (Nat.le_refl _) dX6_amplitudeAfter_38
    · refine aw_bipush (x := -3) dX6_amplitudeAfter_22 rfl ?_
      exact aw_iret ⟨_, rfl, rfl, rfl, (fun _ _ _ => rfl), (by (repeat' split) <;> omega)⟩ (Nat.le_refl _) (Nat.le_refl _) dX6_amplitudeAfter_24
  · refine aw_bipush (x := -2) dX6_amplitudeAfter_8 rfl ?_
    exact aw_iret ⟨_, rfl, rfl, rfl, (fun _ _ _ => rfl), (by (repeat' split) <;> omega)⟩ (Nat.le_refl _) (Nat.le_refl _) dX6_amplitudeAfter_10
theorem l_tul {mr : aR} (hR : Rok mr) {mi : aM} {b : Int} (hb : 0 ≤ b ∧ b < mi 1 11) (hsw : mi (28 + b.toNat) 6 ≠ 0) : ∀ (n : Nat) (m : aM) (z : Int) (i : Nat), imO m → fr3 mi m → m 3 11 ≤ 100000 + 60 * (z - 1) → m 3 7 = mi (28 + b.toNat) 7 → m 3 10 = mi (28 + b.toNat) 10 → m 3 8 = ampF (mi (28 + b.toNat) 8) (mi (28 + b.toNat) 7) (mi (28 + b.toNat) 10) i → z = (i : Int) + 1 → (∀ k : Nat, 1 ≤ k → (k : Int) < z → ampF (mi (28 + b.toNat) 8) (mi (28 + b.toNat) 7) (mi (28 + b.toNat) 10) k < 400) → (1 ≤ z ∧ z ≤ 201) → 201 - z < n → AWm RX6 cX6_turnsUntilLoud 3 4 (Pi mr (fun r m => fr3 mi m ∧ ((¬ (0 ≤ b ∧ b < mi 1 11) ∧ r = -2) ∨ ((0 ≤ b ∧ b < mi 1 11) ∧ ((mi (28 + b.toNat) 6 = 0 ∧ r = -1) ∨ (mi (28 + b.toNat) 6 ≠ 0 ∧ ((r = -1 ∧ ∀ k : Nat, 1 ≤ k → k ≤ 200 → ampF (mi (28 + b.toNat) 8) (mi (28 + b.toNat) 7) (mi (28 + b.toNat) 10) k < 400) ∨ (1 ≤ r ∧ r ≤ 200 ∧ 400 ≤ ampF (mi (28 + b.toNat) 8) (mi (28 + b.toNat) 7) (mi (28 + b.toNat) 10) r.toNat ∧ ∀ k : Nat, 1 ≤ k → (k : Int) < r → ampF (mi (28 + b.toNat) 8) (mi (28 + b.toNat) 7) (mi (28 + b.toNat) 10) k < 400)))))))) 40 [(0, .ref 1), (1, iI b), (2, iI z)] [] m mr := by
  intro n
  induction n with
  | zero => intro m z i him hf hl ha7 ha10 ha8 hz hlow h2 h3; omega
  | succ n ih =>
    intro m z i him hf hl ha7 ha10 ha8 hz hlow h2 h3
    have h38 := him.2.2.2.2.1
    have h33 := him.2.1
    refine aw_iload_n (i := 2) (q := 2) dX6_turnsUntilLoud_40 rfl rfl ?_
    refine aw_sipush (x := 200) dX6_turnsUntilLoud_41 rfl ?_
    refine aw_icmp_gt (tgt := 75) dX6_turnsUntilLoud_44 (by decide) (by first | assumption | omega) (by decide) (fun c44 => ?_) (fun c44 => ?_)
    · refine aw_iconst dX6_turnsUntilLoud_75 ?_
      exact aw_iret ⟨_, rfl, rfl, rfl, hf, Or.inr ⟨hb, Or.inr ⟨hsw, Or.inl ⟨rfl, fun k k1 k2 => hlow k k1 (by omega)⟩⟩⟩⟩ (Nat.le_refl _) (Nat.le_refl _) dX6_turnsUntilLoud_76
    · refine aw_aload_n (i := 0) (q := 0) dX6_turnsUntilLoud_47 rfl rfl ?_
      refine aw_getR (r := 3) flX6_16 SH_1 (by decide) rfl (rk_1_1 hR) dX6_turnsUntilLoud_48 ?_
      refine aw_cVv (As := []) (st := []) clX6_293 (s_X0_turn (mi := m) hR SH_3 (by decide) him) SH_3 rfl (by decide) rfl rfl (Nat.le_of_ble_eq_true rfl) (by decide) (by decide) (Nat.le_refl _) (Nat.le_refl _) dX6_turnsUntilLoud_51 (fun m2 hm2 => ?_)
      have hq := tnA_eq hm2
      have him2 := imO_tn him (by omega)
      rw [← hq] at him2
      have h11 : m2 3 11 = m 3 11 + m 3 3 := hm2.2.2.1
      have h8 : m2 3 8 = trn (m 3 8) (m 3 7) (m 3 10) := hm2.1
      have h7 : m2 3 7 = m 3 7 := by rw [hq]; exact tnA_k (by decide) _
      have h10 : m2 3 10 = m 3 10 := by rw [hq]; exact tnA_k (by decide) _
      have hf2 : fr3 mi m2 := fun x j hx => by rw [hq, tnA_o hx]; exact hf x j hx
      have h38 := him2.2.2.2.2.1
      refine aw_aload_n (i := 0) (q := 0) dX6_turnsUntilLoud_54 rfl rfl ?_
      refine aw_getR (r := 3) flX6_16 SH_1 (by decide) rfl (rk_1_1 hR) dX6_turnsUntilLoud_55 ?_
      refine aw_getIk (x := m2 3 8) 8 flX6_287 SH_3 (by decide) rfl rfl rfl dX6_turnsUntilLoud_58 (fun r58 => ?_)
      refine aw_sipush (x := 400) dX6_turnsUntilLoud_61 rfl ?_
      refine aw_icmp_lt (tgt := 69) dX6_turnsUntilLoud_64 (by decide) (by first | assumption | omega) (by decide) (fun c64 => ?_) (fun c64 => ?_)
      · refine aw_iinc (i := 2) (q := 2) (x := z) (lv' := [(0, .ref 1), (1, iI b), (2, iI (z + 1))]) [1, 2, 0] dX6_turnsUntilLoud_69 rfl (by decide) rfl ?_
        refine aw_goto (tgt := 40) dX6_turnsUntilLoud_72 (by decide) ?_
        exact ih m2 (z + 1) (i + 1) him2 hf2 (by omega) (by omega) (by omega) (by rw [h8, ha8, ha7, ha10]; rfl) (by omega) (fun k k1 k2 => by by_cases e9 : k = i + 1; (subst e9; show trn _ _ _ < 400; rw [← ha8, ← ha7, ← ha10, ← h8]; omega); (exact hlow k k1 (by omega))) (by omega) (by omega)
      · refine aw_iload_n (i := 2) (q := 2) dX6_turnsUntilLoud_67 rfl rfl ?_
        exact aw_iret ⟨_, rfl, rfl, rfl, hf2, Or.inr ⟨hb, Or.inr ⟨hsw, Or.inr ⟨by omega, by omega, by rw [show z.toNat = i + 1 by omega]; show 400 ≤ trn _ _ _; rw [← ha8, ← ha7, ← ha10, ← h8]; omega, fun k k1 k2 => hlow k k1 k2⟩⟩⟩⟩ (Nat.le_refl _) (Nat.le_refl _) dX6_turnsUntilLoud_68
theorem s_X6_turnsUntilLoud {mr : aR} (hR : Rok mr) {mi : aM} {b : Int} (h_b : -2147483648 ≤ b ∧ b ≤ 2147483647) (hc : cB mi) : SPg yX6_turnsUntilLoud cX6_turnsUntilLoud 3 (some .int) 4 [.ref 1, iI b] mi mr (Pi mr (fun r m => fr3 mi m ∧ ((¬ (0 ≤ b ∧ b < mi 1 11) ∧ r = -2) ∨ ((0 ≤ b ∧ b < mi 1 11) ∧ ((mi (28 + b.toNat) 6 = 0 ∧ r = -1) ∨ (mi (28 + b.toNat) 6 ≠ 0 ∧ ((r = -1 ∧ ∀ k : Nat, 1 ≤ k → k ≤ 200 → ampF (mi (28 + b.toNat) 8) (mi (28 + b.toNat) 7) (mi (28 + b.toNat) 10) k < 400) ∨ (1 ≤ r ∧ r ≤ 200 ∧ 400 ≤ ampF (mi (28 + b.toNat) 8) (mi (28 + b.toNat) 7) (mi (28 + b.toNat) 10) r.toNat ∧ ∀ k : Nat, 1 ≤ k → (k : Int) < r → ampF (mi (28 + b.toNat) 8) (mi (28 + b.toNat) 7) (mi (28 + b.toNat) 10) k < 400)))))))) := by
  refine SPg.int rfl (by decide +kernel) (Nat.le_of_ble_eq_true rfl) ?_
  show AWm RX6 cX6_turnsUntilLoud 3 4 _ 0 [(0, .ref 1), (1, iI b)] [] mi mr
  have hn := hc.1
  have hnw := hc.2.1
  refine aw_aload_n (i := 0) (q := 0) dX6_turnsUntilLoud_0 rfl rfl ?_
  refine aw_iload_n (i := 1) (q := 1) dX6_turnsUntilLoud_1 rfl rfl ?_
  refine aw_cVp (As := [iI b]) (st := []) clX6_103 (s_X6_isBell hR (by omega)) SH_1 rfl (by decide) rfl rfl (Nat.le_of_ble_eq_true rfl) (by decide) (by decide) (Nat.le_refl _) (Nat.le_refl _) dX6_turnsUntilLoud_2 (fun v2 hv2 => ?_)
  refine aw_if_ne (tgt := 11) dX6_turnsUntilLoud_5 (by decide) (by first | assumption | omega) (fun c5 => ?_) (fun c5 => ?_)
  · obtain ⟨hk, hk11, -⟩ := hc.2.2 b.toNat (by omega)
    refine aw_aload_n (i := 0) (q := 0) dX6_turnsUntilLoud_11 rfl rfl ?_
    refine aw_getR (r := 2) flX6_11 SH_1 (by decide) rfl (rk_1_0 hR) dX6_turnsUntilLoud_12 ?_
    refine aw_iload_n (i := 1) (q := 1) dX6_turnsUntilLoud_15 rfl rfl ?_
    refine aw_aald (r := 28 + (b).toNat) SH_2 (by decide) (by decide) ⟨by omega, by omega⟩ (hR.2.1 _ (by omega) (by omega)) dX6_turnsUntilLoud_16 ?_
    refine aw_getIk (x := mi (28 + (b).toNat) 6) 6 flX6_162 (SH_bell ⟨by omega, by omega⟩) ⟨by omega, by omega⟩ rfl rfl rfl dX6_turnsUntilLoud_17 (fun r17 => ?_)
    refine aw_if_ne (tgt := 25) dX6_turnsUntilLoud_20 (by decide) (by first | assumption | omega) (fun c20 => ?_) (fun c20 => ?_)
    · refine aw_aload_n (i := 0) (q := 0) dX6_turnsUntilLoud_25 rfl rfl ?_
      refine aw_getR (r := 3) flX6_16 SH_1 (by decide) rfl (rk_1_1 hR) dX6_turnsUntilLoud_26 ?_
      refine aw_aload_n (i := 0) (q := 0) dX6_turnsUntilLoud_29 rfl rfl ?_
      refine aw_getR (r := 2) flX6_11 SH_1 (by decide) rfl (rk_1_0 hR) dX6_turnsUntilLoud_30 ?_
      refine aw_iload_n (i := 1) (q := 1) dX6_turnsUntilLoud_33 rfl rfl ?_
      refine aw_aald (r := 28 + (b).toNat) SH_2 (by decide) (by decide) ⟨by omega, by omega⟩ (hR.2.1 _ (by omega) (by omega)) dX6_turnsUntilLoud_34 ?_
      refine aw_cVv (As := [.ref (28 + (b).toNat)]) (st := []) clX6_267 (s_X0_copyFrom hR SH_3 (by decide) (SH_bell ⟨by omega, by omega⟩) ⟨by omega, by omega⟩ (by omega) hk.2.2.2.2.2.2.1 hk.2.2.2.2.2.2.2.1) SH_3 rfl (by decide) rfl rfl (Nat.le_of_ble_eq_true rfl) (by decide) (by decide) (Nat.le_refl _) (Nat.le_refl _) dX6_turnsUntilLoud_35 (fun m1 hm1 => ?_)
      have him : imO m1 ∧ m1 3 11 ≤ 100000 ∧ fr3 mi m1 ∧ m1 3 8 = mi (28 + b.toNat) 8 ∧ m1 3 7 = mi (28 + b.toNat) 7 ∧ m1 3 10 = mi (28 + b.toNat) 10 := by
        obtain ⟨e2, e3, e6, e7, e8, e9, e10, e11, ef⟩ := hm1
        refine ⟨?_, by omega, fun x j hx => ef x j (Or.inl hx), e8, e7, e10⟩
        unfold imO
        rw [e2, e3, e6, e7, e8, e9, e10, e11]
        exact ⟨hk.2.2.1, hk.2.2.2.1, hk.2.2.2.2.2.2⟩
      refine aw_iconst dX6_turnsUntilLoud_38 ?_
      refine aw_istore_n (i := 2) (lv' := [(0, .ref 1), (1, iI b), (2, iI 1)]) [1, 2, 0] dX6_turnsUntilLoud_39 rfl (by decide) rfl ?_
      exact l_tul hR ⟨by omega, by omega⟩ (by omega) 201 m1 1 0 him.1 him.2.2.1 (by omega) him.2.2.2.2.1 him.2.2.2.2.2 him.2.2.2.1 rfl (fun k k1 k2 => by omega) (by omega) (by omega)
    · refine aw_iconst dX6_turnsUntilLoud_23 ?_
      exact aw_iret ⟨_, rfl, rfl, rfl, (fun _ _ _ => rfl), Or.inr ⟨⟨by omega, by omega⟩, Or.inl ⟨by omega, rfl⟩⟩⟩ (Nat.le_refl _) (Nat.le_refl _) dX6_turnsUntilLoud_24
  · refine aw_bipush (x := -2) dX6_turnsUntilLoud_8 rfl ?_
    exact aw_iret ⟨_, rfl, rfl, rfl, (fun _ _ _ => rfl), Or.inl ⟨by omega, rfl⟩⟩ (Nat.le_refl _) (Nat.le_refl _) dX6_turnsUntilLoud_10
