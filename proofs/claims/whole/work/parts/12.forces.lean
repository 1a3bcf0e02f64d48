-- part 12: the forces of a bell, tick by tick (printed by wip/whole/gen/p12.py)
/-- a swinging bell's (swings, amplitude, side, latest turn) -/
abbrev bQ : Type := Int × Int × Int × Int
def tkS (mo ta hf t : Int) (q : bQ) : bQ := if q.1 ≠ 0 ∧ t = q.2.2.2 + hf then (if trn q.2.1 mo ta = 0 ∧ mo = 0 then 0 else q.1, trn q.2.1 mo ta, -q.2.2.1, q.2.2.2 + hf) else q
def fut (mo ta hf : Int) (q : bQ) (t0 : Int) : Nat → bQ
  | 0 => q
  | k + 1 => tkS mo ta hf (t0 + k) (fut mo ta hf q t0 k)
def fF (w hf : Int) (q : bQ) (t : Int) : Int := if q.1 = 0 then 0 else frc q.2.2.1 w q.2.1 hf (t - q.2.2.2)
def bqOf (m : aM) (a : Nat) : bQ := (m a 6, m a 8, m a 9, m a 11)
/-- the force at the tick k from t0 on: the events of the ticks up to k are through -/
def fK (w mo ta hf : Int) (q : bQ) (t0 : Int) (k : Nat) : Int := fF w hf (fut mo ta hf q t0 (k + 1)) (t0 + k)
/-- a bell's numbers as they may be while its future is lived through -/
def qOk (q : bQ) : Prop := (q.1 = 0 ∨ q.1 = 1) ∧ (0 ≤ q.2.1 ∧ q.2.1 ≤ 1000) ∧ (q.2.2.1 = 1 ∨ q.2.2.1 = -1)
theorem tkS_ok {mo ta hf t : Int} {q : bQ} (h : qOk q) (ht : 0 ≤ ta ∧ ta ≤ 1000) : qOk (tkS mo ta hf t q) := by
  unfold tkS
  split
  · refine ⟨?_, trn_rng h.2.1 ht, ?_⟩
    · dsimp only
      split
      · exact Or.inl rfl
      · exact h.1
    · have := h.2.2
      dsimp only
      omega
  · exact h
theorem tkS_win {mo ta hf t : Int} {q : bQ} (hh : 1 ≤ hf) (h : q.1 ≠ 0 → q.2.2.2 ≤ t ∧ t ≤ q.2.2.2 + hf) : (tkS mo ta hf t q).1 ≠ 0 → (tkS mo ta hf t q).2.2.2 ≤ t ∧ t < (tkS mo ta hf t q).2.2.2 + hf := by
  unfold tkS
  split
  · intro _
    dsimp only
    omega
  · intro h2
    have h3 := h h2
    rename_i h4
    have : ¬ t = q.2.2.2 + hf := fun e => h4 ⟨h2, e⟩
    omega
def aFI (mi m : aM) (a r : Nat) (t z : Int) (i : Nat) : Prop :=
  z = (i : Int) ∧ (∀ (x : Nat) (j : Int), x ≠ r → (x ≠ a ∨ (j ≠ 6 ∧ j ≠ 8 ∧ j ≠ 9 ∧ j ≠ 11)) → m x j = mi x j) ∧ bqOf m a = fut (mi a 7) (mi a 10) (mi a 3) (bqOf mi a) t i ∧ (∀ j : Int, 0 ≤ j → j < z → m r j = mi r j + fK (mi a 2) (mi a 7) (mi a 10) (mi a 3) (bqOf mi a) t j.toNat) ∧ (∀ j : Int, (j < 0 ∨ z ≤ j) → m r j = mi r j) ∧ qOk (bqOf m a) ∧ (m a 6 ≠ 0 → m a 11 ≤ t + z ∧ t + z ≤ m a 11 + mi a 3) ∧ (0 ≤ m a 11 ∧ m a 11 ≤ 200000)
/-- what addForces asks of the bell a, the row r of zr places, the start t -/
def aFP (mi : aM) (a r zr : Nat) (t : Int) : Prop := (SH a = (0, 0) ∧ (0 < a ∧ a ≤ 94)) ∧ (SH r = (1, zr) ∧ (0 < r ∧ r ≤ 94)) ∧ r ≠ a ∧ ((1 ≤ mi a 2 ∧ mi a 2 ≤ 99) ∧ (10 ≤ mi a 3 ∧ mi a 3 ≤ 60) ∧ (mi a 7 = 0 ∨ mi a 7 = 1) ∧ (0 ≤ mi a 10 ∧ mi a 10 ≤ 1000)) ∧ (0 ≤ t ∧ t ≤ 100000) ∧ (∀ j : Int, 0 ≤ j → j < zr → -100000 ≤ mi r j ∧ mi r j ≤ 100000)
theorem aFI_step {mi m m1 : aM} {a r zr : Nat} {t z v : Int} {i : Nat} (P : aFP mi a r zr t) (h : aFI mi m a r t z i) (hz : z ≤ 1000) (hfr : ∀ (x : Nat) (j : Int), (x ≠ a ∨ (j ≠ 6 ∧ j ≠ 8 ∧ j ≠ 9 ∧ j ≠ 11)) → m1 x j = m x j) (hlt : 0 ≤ m1 a 11 ∧ m1 a 11 ≤ 200000)
    (htk : bqOf m1 a = tkS (mi a 7) (mi a 10) (mi a 3) (t + z) (bqOf m a)) (hv : v = fF (mi a 2) (mi a 3) (bqOf m1 a) (t + z)) : aFI mi (aup m1 r z (m1 r z + v)) a r t (z + 1) (i + 1) := by
  obtain ⟨-, -, hne, hb, -, -⟩ := P
  obtain ⟨h1, h2, h3, h4, h5, h6, h7, h8⟩ := h
  have ha : ∀ j : Int, aup m1 r z (m1 r z + v) a j = m1 a j := fun j => aup_a (Ne.symm hne)
  have hq : bqOf (aup m1 r z (m1 r z + v)) a = bqOf m1 a := by unfold bqOf; simp only [ha]
  have hf1 : fut (mi a 7) (mi a 10) (mi a 3) (bqOf mi a) t (i + 1) = bqOf m1 a := by
    show tkS _ _ _ (t + (i : Int)) (fut _ _ _ _ _ i) = _
    rw [← h3, htk, h1]
  refine ⟨by omega, fun x j hx hx2 => ?_, by rw [hq, hf1], fun j j0 j1 => ?_, fun j hj => ?_, ?_, ?_, ?_⟩
  · rw [aup_a hx, hfr x j hx2, h2 x j hx hx2]
  · by_cases hj : j = z
    · subst hj
      rw [aup_eq, hfr r j (Or.inl hne), h5 j (Or.inr (Int.le_refl _))]
      have e : j.toNat = i := by omega
      unfold fK
      rw [e, hf1, hv, h1]
    · rw [aup_k hj, hfr r j (Or.inl hne)]
      exact h4 j j0 (by omega)
  · rw [aup_k (by omega), hfr r j (Or.inl hne)]
    exact h5 j (by omega)
  · rw [hq, htk]
    exact tkS_ok h6 hb.2.2.2
  · rw [ha, ha]
    have hw := tkS_win (mo := mi a 7) (ta := mi a 10) (hf := mi a 3) (t := t + z) (q := bqOf m a) (by omega) h7
    rw [← htk] at hw
    intro hs
    have h9 := hw hs
    have e1 : (bqOf m1 a).2.2.2 = m1 a 11 := rfl
    rw [e1] at h9
    omega
  · rw [ha]; exact hlt
theorem aFI_end {mi m : aM} {a r : Nat} {t z w : Int} {i : Nat} (h : aFI mi m a r t z i) (e : z = w) : aFI mi m a r t w w.toNat := by
  subst e
  have e2 : i = z.toNat := by have := h.1; omega
  subst e2
  exact h
/-- a tick with a turn, a tick without -/
theorem tk_turn {m m1 : aM} {a : Nat} {mo ta hf t : Int} (h6 : m a 6 ≠ 0) (ht : t = m a 11 + hf) (h : m1 a 8 = trn (m a 8) mo ta ∧ m1 a 9 = -(m a 9) ∧ m1 a 11 = m a 11 + hf ∧ m1 a 6 = (if trn (m a 8) mo ta = 0 ∧ mo = 0 then 0 else m a 6)) : bqOf m1 a = tkS mo ta hf t (bqOf m a) := by
  unfold tkS bqOf
  rw [if_pos ⟨h6, ht⟩, h.1, h.2.1, h.2.2.1, h.2.2.2]
theorem tk_none {m : aM} {a : Nat} {mo ta hf t : Int} (h : m a 6 = 0 ∨ t ≠ m a 11 + hf) : bqOf m a = tkS mo ta hf t (bqOf m a) := by
  unfold tkS
  rw [if_neg]
  intro q
  rcases h with h | h
  · exact q.1 h
  · exact h q.2
theorem fF_of {m : aM} {a : Nat} {w hf t v : Int} (h : (m a 6 = 0 ∧ v = 0) ∨ (m a 6 ≠ 0 ∧ v = frc (m a 9) w (m a 8) hf (t - m a 11))) : v = fF w hf (bqOf m a) t := by
  unfold fF bqOf
  dsimp only
  rcases h with ⟨h1, h2⟩ | ⟨h1, h2⟩
  · rw [if_pos h1]; exact h2
  · rw [if_neg h1]; exact h2
theorem fF_rng {w hf t : Int} {q : bQ} (hq : qOk q) (hw : 1 ≤ w ∧ w ≤ 99) (hh : 10 ≤ hf ∧ hf ≤ 60) (hu : q.1 ≠ 0 → q.2.2.2 ≤ t ∧ t ≤ q.2.2.2 + hf) : -1000 ≤ fF w hf q t ∧ fF w hf q t ≤ 1000 := by
  unfold fF
  by_cases h : q.1 = 0
  · rw [if_pos h]; omega
  · rw [if_neg h]
    have := hu h
    exact frc_rng hq.2.2 (by omega) hq.2.1 hh (by omega)
theorem l_addForces {mr : aR} (hR : Rok mr) {mi : aM} {a r zr : Nat} {t last : Int} (P : aFP mi a r zr t) (hlast : 0 ≤ last ∧ last < zr) (hzr : zr ≤ 1000) : ∀ (n : Nat) (m : aM) (z : Int) (i : Nat), aFI mi m a r t z i → (0 ≤ z ∧ z ≤ last + 1) → last + 1 - z < n → AWm RX0 cX0_addForces 5 3 (Pv mr (fun m => aFI mi m a r t (last + 1) (last + 1).toNat)) 3 [(0, .ref a), (1, .ref r), (2, iI t), (3, iI last), (4, iI z)] [] m mr := by
  intro n
  induction n with
  | zero => intro m z i h1 h2 h3; omega
  | succ n ih =>
    intro m z i h1 h2 h3
    have hI := h1
    obtain ⟨i1, i2, i3, i4, i5, i6, i7, i8⟩ := h1
    have P0 := P
    obtain ⟨-, -, hne, ⟨b1, b2, b3, b4⟩, ht, hrow⟩ := P
    have P := P0
    have e2 : m a 2 = mi a 2 := i2 a 2 (Ne.symm hne) (Or.inr (by omega))
    have e3 : m a 3 = mi a 3 := i2 a 3 (Ne.symm hne) (Or.inr (by omega))
    have e7 : m a 7 = mi a 7 := i2 a 7 (Ne.symm hne) (Or.inr (by omega))
    have e10 : m a 10 = mi a 10 := i2 a 10 (Ne.symm hne) (Or.inr (by omega))
    have q6 : m a 6 = 0 ∨ m a 6 = 1 := i6.1
    have q8 : 0 ≤ m a 8 ∧ m a 8 ≤ 1000 := i6.2.1
    have q9 : m a 9 = 1 ∨ m a 9 = -1 := i6.2.2
    have er : m r z = mi r z := i5 z (Or.inr (Int.le_refl _))
    refine aw_iload (i := 4) (q := 4) dX0_addForces_3 rfl ?_
    refine aw_iload_n (i := 3) (q := 3) dX0_addForces_5 rfl rfl ?_
    refine aw_icmp_gt (tgt := 52) dX0_addForces_6 (by decide) (by first | assumption | omega) (by first | assumption | omega) (fun c6 => ?_) (fun c6 => ?_)
    · exact aw_vret ⟨rfl, rfl, rfl, aFI_end hI (by omega)⟩ (Nat.le_refl _) (Nat.le_refl _) dX0_addForces_52
    · refine aw_iload (i := 4) (q := 4) dX0_addForces_9 rfl ?_
      refine aw_aload_n (i := 1) (q := 1) dX0_addForces_11 rfl rfl ?_
      refine aw_alen0 P.2.1.1 P.2.1.2 dX0_addForces_12 ?_
      refine aw_icmp_ge (tgt := 52) dX0_addForces_13 (by decide) (by first | assumption | omega) (by first | assumption | omega) (fun c13 => ?_) (fun c13 => ?_)
      · exact aw_vret ⟨rfl, rfl, rfl, aFI_end hI (by omega)⟩ (Nat.le_refl _) (Nat.le_refl _) dX0_addForces_52
      · refine aw_aload_n (i := 0) (q := 0) dX0_addForces_16 rfl rfl ?_
        refine aw_iload_n (i := 2) (q := 2) dX0_addForces_17 rfl rfl ?_
        refine aw_iload (i := 4) (q := 4) dX0_addForces_18 rfl ?_
        refine aw_iadd dX0_addForces_20 ?_
        refine aw_cVp (As := [iI (t + z)]) (st := []) clX0_62 (s_X0_turnsAt hR P.1.1 P.1.2 (by omega) (by omega) (by omega)) P.1.1 rfl P.1.2 rfl rfl (Nat.le_of_ble_eq_true rfl) (by decide) (by decide) (Nat.le_refl _) (Nat.le_refl _) dX0_addForces_21 (fun v21 hv21 => ?_)
        refine aw_if_eq (tgt := 31) dX0_addForces_24 (by decide) (by first | assumption | omega) (fun c24 => ?_) (fun c24 => ?_)
        · have htk : bqOf m a = tkS (mi a 7) (mi a 10) (mi a 3) (t + z) (bqOf m a) := tk_none (by omega)
          have hfr : ∀ (x : Nat) (j : Int), (x ≠ a ∨ (j ≠ 6 ∧ j ≠ 8 ∧ j ≠ 9 ∧ j ≠ 11)) → m x j = m x j := fun _ _ _ => rfl
          have hl1 := i8
          have hok : qOk (bqOf m a) := i6
          have hwn : (bqOf m a).1 ≠ 0 → (bqOf m a).2.2.2 ≤ t + z ∧ t + z < (bqOf m a).2.2.2 + mi a 3 := by rw [htk]; exact tkS_win (by omega) i7
          have f2 : m a 2 = mi a 2 := by rw [hfr a 2 (Or.inr (by omega))]; exact e2
          have f3 : m a 3 = mi a 3 := by rw [hfr a 3 (Or.inr (by omega))]; exact e3
          have hr9 := hrow z (by omega) (by omega)
          have fr : m r z = m r z := hfr r z (Or.inl hne)
          refine aw_aload_n (i := 1) (q := 1) dX0_addForces_31 rfl rfl ?_
          refine aw_iload (i := 4) (q := 4) dX0_addForces_32 rfl ?_
          refine aw_dup2 dX0_addForces_34 rfl rfl ?_
          refine aw_ialdv (x := m r z) P.2.1.1 P.2.1.2 ⟨by omega, by omega⟩ rfl dX0_addForces_35 (fun r35 => ?_)
          refine aw_aload_n (i := 0) (q := 0) dX0_addForces_36 rfl rfl ?_
          refine aw_iload_n (i := 2) (q := 2) dX0_addForces_37 rfl rfl ?_
          refine aw_iload (i := 4) (q := 4) dX0_addForces_38 rfl ?_
          refine aw_iadd dX0_addForces_40 ?_
          refine aw_cVp (As := [iI (t + z)]) (st := [iI (m r z), iI z, .ref r]) clX0_69 (s_X0_forceAt (mi := m) hR P.1.1 P.1.2 (by omega) (by omega) (by omega) hok.2.1 hok.2.2 (fun q => by have h := hwn q; have e1 : (bqOf m a).2.2.2 = m a 11 := rfl; rw [e1] at h; omega)) P.1.1 rfl P.1.2 rfl rfl (Nat.le_of_ble_eq_true rfl) (by decide) (by decide) (Nat.le_refl _) (Nat.le_refl _) dX0_addForces_41 (fun v41 hv41 => ?_)
          rw [f2, f3] at hv41
          have hF := fF_of hv41
          have hFr := fF_rng hok b1 b2 (t := t + z) (fun q => by have := hwn q; omega)
          rw [← hF] at hFr
          refine aw_iadd dX0_addForces_44 ?_
          refine aw_iast P.2.1.1 P.2.1.2 ⟨by omega, by omega⟩ (by first | assumption | omega) dX0_addForces_45 ?_
          refine aw_iinc (i := 4) (q := 4) (x := z) (lv' := [(0, .ref a), (1, .ref r), (2, iI t), (3, iI last), (4, iI (z + 1))]) [1, 2, 3, 4, 0] dX0_addForces_46 rfl (by decide) rfl ?_
          refine aw_goto (tgt := 3) dX0_addForces_49 (by decide) ?_
          exact ih _ _ _ (aFI_step P hI (by omega) hfr hl1 htk hF) (by omega) (by omega)
        · refine aw_aload_n (i := 0) (q := 0) dX0_addForces_27 rfl rfl ?_
          refine aw_cVv (As := []) (st := []) clX0_66 (s_X0_turn hR P.1.1 P.1.2 ⟨by omega, by omega, q6, by omega, q8, q9, by omega, by omega⟩) P.1.1 rfl P.1.2 rfl rfl (Nat.le_of_ble_eq_true rfl) (by decide) (by decide) (Nat.le_refl _) (Nat.le_refl _) dX0_addForces_28 (fun m1 hm1 => ?_)
          have hs6 : m a 6 ≠ 0 ∧ t + z = m a 11 + mi a 3 := by omega
          have htk : bqOf m1 a = tkS (mi a 7) (mi a 10) (mi a 3) (t + z) (bqOf m a) := tk_turn hs6.1 hs6.2 (by rw [← e7, ← e10, ← e3]; exact ⟨hm1.1, hm1.2.1, hm1.2.2.1, hm1.2.2.2.1⟩)
          have hfr := hm1.2.2.2.2
          have hl1 : 0 ≤ m1 a 11 ∧ m1 a 11 ≤ 200000 := by have := hm1.2.2.1; omega
          have hok : qOk (bqOf m1 a) := by rw [htk]; exact tkS_ok i6 b4
          have hwn : (bqOf m1 a).1 ≠ 0 → (bqOf m1 a).2.2.2 ≤ t + z ∧ t + z < (bqOf m1 a).2.2.2 + mi a 3 := by rw [htk]; exact tkS_win (by omega) i7
          have f2 : m1 a 2 = mi a 2 := by rw [hfr a 2 (Or.inr (by omega))]; exact e2
          have f3 : m1 a 3 = mi a 3 := by rw [hfr a 3 (Or.inr (by omega))]; exact e3
          have hr9 := hrow z (by omega) (by omega)
          have fr : m1 r z = m r z := hfr r z (Or.inl hne)
          refine aw_aload_n (i := 1) (q := 1) dX0_addForces_31 rfl rfl ?_
          refine aw_iload (i := 4) (q := 4) dX0_addForces_32 rfl ?_
          refine aw_dup2 dX0_addForces_34 rfl rfl ?_
          refine aw_ialdv (x := m1 r z) P.2.1.1 P.2.1.2 ⟨by omega, by omega⟩ rfl dX0_addForces_35 (fun r35 => ?_)
          refine aw_aload_n (i := 0) (q := 0) dX0_addForces_36 rfl rfl ?_
          refine aw_iload_n (i := 2) (q := 2) dX0_addForces_37 rfl rfl ?_
          refine aw_iload (i := 4) (q := 4) dX0_addForces_38 rfl ?_
          refine aw_iadd dX0_addForces_40 ?_
          refine aw_cVp (As := [iI (t + z)]) (st := [iI (m1 r z), iI z, .ref r]) clX0_69 (s_X0_forceAt (mi := m1) hR P.1.1 P.1.2 (by omega) (by omega) (by omega) hok.2.1 hok.2.2 (fun q => by have h := hwn q; have e1 : (bqOf m1 a).2.2.2 = m1 a 11 := rfl; rw [e1] at h; omega)) P.1.1 rfl P.1.2 rfl rfl (Nat.le_of_ble_eq_true rfl) (by decide) (by decide) (Nat.le_refl _) (Nat.le_refl _) dX0_addForces_41 (fun v41 hv41 => ?_)
          rw [f2, f3] at hv41
          have hF := fF_of hv41
          have hFr := fF_rng hok b1 b2 (t := t + z) (fun q => by have := hwn q; omega)
          rw [← hF] at hFr
          refine aw_iadd dX0_addForces_44 ?_
          refine aw_iast P.2.1.1 P.2.1.2 ⟨by omega, by omega⟩ (by first | assumption | omega) dX0_addForces_45 ?_
          refine aw_iinc (i := 4) (q := 4) (x := z) (lv' := [(0, .ref a), (1, .ref r), (2, iI t), (3, iI last), (4, iI (z + 1))]) [1, 2, 3, 4, 0] dX0_addForces_46 rfl (by decide) rfl ?_
          refine aw_goto (tgt := 3) dX0_addForces_49 (by decide) ?_
          exact ih _ _ _ (aFI_step P hI (by omega) hfr hl1 htk hF) (by omega) (by omega)
theorem s_X0_addForces {mr : aR} (hR : Rok mr) {mi : aM} {a r zr : Nat} {t last : Int} (P : aFP mi a r zr t) (hlast : 0 ≤ last ∧ last < zr) (hzr : zr ≤ 1000) (hq : qOk (bqOf mi a)) (hlt : 0 ≤ mi a 11 ∧ mi a 11 ≤ 200000) (hw : mi a 6 ≠ 0 → mi a 11 ≤ t ∧ t ≤ mi a 11 + mi a 3) : SPg yX0_addForces cX0_addForces 5 none 3 [.ref a, .ref r, iI t, iI last] mi mr (Pv mr (fun m => aFI mi m a r t (last + 1) (last + 1).toNat)) := by
  refine SPg.void rfl (by decide +kernel) (Nat.le_of_ble_eq_true rfl) ?_
  show AWm RX0 cX0_addForces 5 3 _ 0 [(0, .ref a), (1, .ref r), (2, iI t), (3, iI last)] [] mi mr
  have h0 : aFI mi mi a r t 0 0 := ⟨rfl, fun _ _ _ _ => rfl, rfl, fun j h1 h2 => by omega, fun _ _ => rfl, hq, by simpa using hw, hlt⟩
  refine aw_iconst dX0_addForces_0 ?_
  refine aw_istore (i := 4) (lv' := [(0, .ref a), (1, .ref r), (2, iI t), (3, iI last), (4, iI 0)]) [1, 2, 3, 4, 0] dX0_addForces_1 (by decide) rfl ?_
  exact l_addForces hR P hlast hzr (last.toNat + 2) mi 0 0 h0 ⟨by omega, by omega⟩ (by omega)
