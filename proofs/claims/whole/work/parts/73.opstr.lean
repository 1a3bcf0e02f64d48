-- part 73: scheduleStroke, cancelStroke, play, weave, loadPattern on both sides (printed by wip/whole/gen/p73.py)
section OPS
variable {c m : aM} {E : Int → Nat} {mr : aR}
theorem KK_same (hen : enI mr E) (h : KK c m E) {c1 m1 : aM} (fc : ∀ (x : Nat) (j : Int), x < 58 → (x < 12 ∨ 17 < x) → c1 x j = c x j) (hm : mOk m1) (fm : frM m m1) (hM : mL m1 = mL m) : KK c1 m1 E := by
  have ho : sOk c1 8 := sOk_congr (fun j => ⟨fc _ _ (by decide) (by decide), fc _ _ (by decide) (by decide), fc _ _ (by decide) (by decide)⟩) (fc _ _ (by decide) (by decide)) (kc_o h)
  have hc : sL c1 8 = sL c 8 := sL_congr (fun j => ⟨fc _ _ (by decide) (by decide), fc _ _ (by decide) (by decide), fc _ _ (by decide) (by decide)⟩) (fc _ _ (by decide) (by decide))
  have f2 : ∀ (x : Nat) (j : Int), x < 58 → (x < 8 ∨ 17 < x) → c1 x j = c x j := fun x j a b => fc x j a (by omega)
  exact KK_lift h f2 fm (KW_str hen (KW_of h) f2 fm ho (same_keep (KW_of h) ho hm hc hM))
theorem KK_new (hen : enI mr E) (h : KK c m E) {c1 m1 : aM} (fc : ∀ (x : Nat) (j : Int), x < 58 → (x < 8 ∨ 17 < x) → c1 x j = c x j) (ho : sOk c1 8) (fm : frM m m1) (h4 : K4 c1 m1) : KK c1 m1 E := KK_lift h fc fm (KW_str hen (KW_of h) fc fm ho h4)
theorem op_sched (hen : enI mr E) (h : KK c m E) {b t r q : Int} {c1 m1 : aM} (hP : r = (if 0 ≤ b ∧ b < c 1 11 then (if 0 ≤ t ∧ t ≤ 100000 then (if eC c (sL c 8) b t = 0 then t - c (28 + b.toNat) 0 else eC c (sL c 8) b t) else -3) else -2) ∧ (r < 0 → fr12 c c1) ∧ (0 ≤ r → (0 ≤ b ∧ b < c 1 11) ∧ eC c (sL c 8) b t = 0 ∧ (sL c1 8).Perm ((b, t - c (28 + b.toNat) 0, t) :: sL c 8) ∧ sOk c1 8 ∧ fr8 c c1)) (hQ : mOk m1 ∧ frM m m1 ∧ ((¬ (0 ≤ b ∧ b < m 58 6) ∧ q = -2 ∧ mL m1 = mL m) ∨ ((0 ≤ b ∧ b < m 58 6) ∧ ((eM m (mL m) b t ≠ 0 ∧ q = eM m (mL m) b t ∧ mL m1 = mL m) ∨ (eM m (mL m) b t = 0 ∧ q = t - m 59 b ∧ (mL m1).Perm ((b, t - m 59 b, t) :: mL m)))))) : q = r ∧ KK c1 m1 E := by
  obtain ⟨p1, p2, p3⟩ := hP
  obtain ⟨q1, q2, q3⟩ := hQ
  rw [h.2.1.1] at q3
  have no : r < 0 → mL m1 = mL m → KK c1 m1 E := fun hr hM => KK_same hen h (fun x j _ a => p2 hr x j (by omega)) q1 q2 hM
  by_cases hv : 0 ≤ b ∧ b < c 1 11
  · rw [if_pos hv] at p1
    rcases q3 with ⟨q4, -⟩ | ⟨-, q3⟩
    · exact absurd hv q4
    have h4 := h.2.2.2.2.1
    have he := kk_e h (t := t) h4.1 hv.1 hv.2
    have hr := eM_rng m (mL m) b t
    have h59 := (kk2 h hv.1 hv.2).2.1.1
    rw [← he, h59] at q3
    rw [← he] at hr
    by_cases ht : 0 ≤ t ∧ t ≤ 100000
    · rw [if_pos ht] at p1
      by_cases e0 : eC c (sL c 8) b t = 0
      · rw [if_pos e0] at p1
        rcases q3 with ⟨q4, -⟩ | ⟨-, q4, q5⟩
        · exact absurd e0 q4
        have hx := eC_t e0
        have hnw := (kc_B h).2.1
        have hd : dC c b = c (28 + b.toNat) 0 := rfl
        obtain ⟨-, -, r3, r4, r5⟩ := p3 (by omega)
        refine ⟨by omega, KK_new hen h (fun x j _ a => r5 x j (by omega)) r4 q2 ?_⟩
        have n := new_L (KW_of h) hv.1 hv.2 (pos_L (kc_o h)) h4.2.2.2 h4.2.2.1 e0
        exact K4_of ((r3.trans (h4.1.cons _)).trans q5.symm) r4 q1 (disL_perm r3.symm n.1) (fun s hs => n.2.2 s (r3.mem_iff.mp hs))
      · rw [if_neg e0] at p1
        rcases q3 with ⟨-, q4, q5⟩ | ⟨q4, -⟩
        · exact ⟨by omega, no (by omega) q5⟩
        · exact absurd q4 e0
    · rw [if_neg ht] at p1
      have e3 : eC c (sL c 8) b t = -3 := by unfold eC exam; exact pick_pos (by omega)
      rw [e3] at q3
      rcases q3 with ⟨-, q4, q5⟩ | ⟨q4, -⟩
      · exact ⟨by omega, no (by omega) q5⟩
      · omega
  · rw [if_neg hv] at p1
    rcases q3 with ⟨-, q4, q5⟩ | ⟨q4, -⟩
    · exact ⟨by omega, no (by omega) q5⟩
    · exact absurd q4 hv
theorem op_cancel (hen : enI mr E) (h : KK c m E) {b t r q : Int} {c1 m1 : aM} (hP : (¬ (0 ≤ b ∧ b < c 1 11) ∧ r = -2 ∧ c1 = c) ∨ ((0 ≤ b ∧ b < c 1 11) ∧ (∀ s ∈ sL c 8, ¬ (s.1 = b ∧ s.2.2 = t)) ∧ r = -2 ∧ c1 = c) ∨ ((0 ≤ b ∧ b < c 1 11) ∧ ∃ s ∈ sL c 8, s.1 = b ∧ s.2.2 = t ∧ ((s.2.1 ≤ c 1 13 ∧ r = -5 ∧ c1 = c) ∨ (c 1 13 < s.2.1 ∧ r = ((sL c 8).length : Int) - 1 ∧ (sL c 8).Perm (s :: sL c1 8) ∧ sOk c1 8 ∧ fr8 c c1)))) (hQ : mOk m1 ∧ frM m m1 ∧ ((¬ (0 ≤ b ∧ b < m 58 6) ∧ q = -2 ∧ mL m1 = mL m) ∨ ((0 ≤ b ∧ b < m 58 6) ∧ (∀ s ∈ mL m, ¬ (s.1 = b ∧ s.2.2 = t)) ∧ q = -2 ∧ mL m1 = mL m) ∨ ((0 ≤ b ∧ b < m 58 6) ∧ ∃ s ∈ mL m, s.1 = b ∧ s.2.2 = t ∧ ((s.2.1 ≤ m 58 9 ∧ q = -5 ∧ mL m1 = mL m) ∨ (m 58 9 < s.2.1 ∧ q = ((mL m).length : Int) - 1 ∧ (mL m).Perm (s :: mL m1)))))) : q = r ∧ KK c1 m1 E := by
  obtain ⟨q1, q2, q3⟩ := hQ
  rw [h.2.1.1, h.2.1.2.2.2.1] at q3
  have h4 := h.2.2.2.2.1
  have no : c1 = c → mL m1 = mL m → KK c1 m1 E := fun hc hM => KK_same hen h (fun x j _ _ => by rw [hc]) q1 q2 hM
  rcases hP with ⟨p1, p2, p3⟩ | ⟨p1, p2, p3, p4⟩ | ⟨p1, s, s1, s2, s3, p2⟩
  · rcases q3 with ⟨-, q5, q6⟩ | ⟨q4, -⟩ | ⟨q4, -⟩
    · exact ⟨by omega, no p3 q6⟩
    · exact absurd q4 p1
    · exact absurd q4 p1
  · rcases q3 with ⟨q4, -⟩ | ⟨-, -, q5, q6⟩ | ⟨-, z, z1, z2, z3, -⟩
    · exact absurd p1 q4
    · exact ⟨by omega, no p4 q6⟩
    · exact absurd ⟨z2, z3⟩ (p2 z (h4.1.mem_iff.mpr z1))
  · rcases q3 with ⟨q4, -⟩ | ⟨-, q4, -⟩ | ⟨-, z, z1, z2, z3, q4⟩
    · exact absurd p1 q4
    · exact absurd ⟨s2, s3⟩ (q4 s (h4.1.mem_iff.mp s1))
    have ezs : z = s := disL_uni (pos_L (kc_o h)) h4.2.2.1 z (h4.1.mem_iff.mpr z1) s s1 (z2.trans s2.symm) (z3.trans s3.symm)
    subst ezs
    rcases p2 with ⟨a1, a2, a3⟩ | ⟨a1, a2, a3, a4, a5⟩
    · rcases q4 with ⟨-, b2, b3⟩ | ⟨b1, -⟩
      · exact ⟨by omega, no a3 b3⟩
      · omega
    · rcases q4 with ⟨b1, -⟩ | ⟨-, b2, b3⟩
      · omega
      · refine ⟨by rw [b2, a2, h4.1.length_eq], KK_new hen h (fun x j _ a => a5 x j (by omega)) a4 q2 ?_⟩
        have hp : (z :: sL c1 8).Perm (z :: mL m1) := (a3.symm.trans h4.1).trans b3
        exact K4_of (hp.cons_inv) a4 q1 (disL_perm a3 h4.2.2.1).2 (fun y hy => h4.2.2.2 y (a3.mem_iff.mpr (List.mem_cons_of_mem _ hy)))
theorem op_play (hen : enI mr E) (h : KK c m E) {w T s r q : Int} {c1 m1 : aM} (hP : (¬ (0 ≤ w ∧ w < 5) ∧ r = -2 ∧ c1 = c) ∨ ((0 ≤ w ∧ w < 5) ∧ ((c (40 + 2 * w.toNat) 1 = 0 ∧ r = -9 ∧ c1 = c) ∨ (c (40 + 2 * w.toNat) 1 ≠ 0 ∧ ((¬ ((0 ≤ T ∧ T ≤ 100000) ∧ (1 ≤ s ∧ s ≤ 200)) ∧ r = -3 ∧ c1 = c) ∨ (((0 ≤ T ∧ T ≤ 100000) ∧ (1 ≤ s ∧ s ≤ 200)) ∧ fr817 c c1 ∧ sOk c1 8 ∧ (((plL (eC c) (dC c) (outL (fun k => c (40 + 2 * w.toNat + 1) k) (c 1 11).toNat T s (c (40 + 2 * w.toNat) 1).toNat 0) (sL c 8)).1 ≠ 0 ∧ r = (plL (eC c) (dC c) (outL (fun k => c (40 + 2 * w.toNat + 1) k) (c 1 11).toNat T s (c (40 + 2 * w.toNat) 1).toNat 0) (sL c 8)).1 ∧ sL c1 8 = sL c 8) ∨ ((plL (eC c) (dC c) (outL (fun k => c (40 + 2 * w.toNat + 1) k) (c 1 11).toNat T s (c (40 + 2 * w.toNat) 1).toNat 0) (sL c 8)).1 = 0 ∧ r = ((outL (fun k => c (40 + 2 * w.toNat + 1) k) (c 1 11).toNat T s (c (40 + 2 * w.toNat) 1).toNat 0).length : Int) ∧ ((plL (eC c) (dC c) (outL (fun k => c (40 + 2 * w.toNat + 1) k) (c 1 11).toNat T s (c (40 + 2 * w.toNat) 1).toNat 0) (sL c 8)).2).Perm (sL c1 8))))))))) (hQ : mOk m1 ∧ frM m m1 ∧ ((¬ (0 ≤ w ∧ w < 5) ∧ q = -2 ∧ mL m1 = mL m) ∨ ((0 ≤ w ∧ w < 5) ∧ ((m 73 w = 0 ∧ q = -9 ∧ mL m1 = mL m) ∨ (m 73 w ≠ 0 ∧ ((¬ ((0 ≤ T ∧ T ≤ 100000) ∧ (1 ≤ s ∧ s ≤ 200)) ∧ q = -3 ∧ mL m1 = mL m) ∨ (((0 ≤ T ∧ T ≤ 100000) ∧ (1 ≤ s ∧ s ≤ 200)) ∧ (((plL (eM m) (dM m) (outL (fun k => m 72 (100 * w + k)) (m 58 6).toNat T s (m 73 w).toNat 0) (mL m)).1 ≠ 0 ∧ q = (plL (eM m) (dM m) (outL (fun k => m 72 (100 * w + k)) (m 58 6).toNat T s (m 73 w).toNat 0) (mL m)).1 ∧ mL m1 = mL m) ∨ ((plL (eM m) (dM m) (outL (fun k => m 72 (100 * w + k)) (m 58 6).toNat T s (m 73 w).toNat 0) (mL m)).1 = 0 ∧ q = ((outL (fun k => m 72 (100 * w + k)) (m 58 6).toNat T s (m 73 w).toNat 0).length : Int) ∧ ((plL (eM m) (dM m) (outL (fun k => m 72 (100 * w + k)) (m 58 6).toNat T s (m 73 w).toNat 0) (mL m)).2).Perm (mL m1)))))))))) : q = r ∧ KK c1 m1 E := by
  obtain ⟨q1, q2, q3⟩ := hQ
  have no : c1 = c → mL m1 = mL m → KK c1 m1 E := fun hc hM => KK_same hen h (fun x j _ _ => by rw [hc]) q1 q2 hM
  rcases hP with ⟨p1, p2, p3⟩ | ⟨p1, p2⟩
  · rcases q3 with ⟨-, q5, q6⟩ | ⟨q4, -⟩
    · exact ⟨by omega, no p3 q6⟩
    · exact absurd q4 p1
  rcases q3 with ⟨q4, -⟩ | ⟨-, q3⟩
  · exact absurd p1 q4
  have kS := kk_S h p1.1 p1.2
  have h4 := h.2.2.2.2.1
  have e73 := kS.1
  rcases p2 with ⟨a1, a2, a3⟩ | ⟨a1, p2⟩
  · rcases q3 with ⟨-, b2, b3⟩ | ⟨b1, -⟩
    · exact ⟨by omega, no a3 b3⟩
    · omega
  rcases q3 with ⟨b1, -⟩ | ⟨-, q3⟩
  · omega
  rcases p2 with ⟨a3, a4, a5⟩ | ⟨a3, a4, a5, p2⟩
  · rcases q3 with ⟨-, b4, b5⟩ | ⟨b3, -⟩
    · exact ⟨by omega, no a5 b5⟩
    · exact absurd b3 a3
  rcases q3 with ⟨b3, -⟩ | ⟨-, q3⟩
  · exact absurd a3 b3
  have kp := kk_pl h (T := T) (s := s) p1.1 p1.2 h4.1
  have ko := kk_out h (T := T) (s := s) p1.1 p1.2
  have fc : ∀ (x : Nat) (j : Int), x < 58 → (x < 8 ∨ 17 < x) → c1 x j = c x j := fun x j _ b => a4 x j b
  rcases p2 with ⟨c2, c3, c4⟩ | ⟨c2, c3, c4⟩
  · rcases q3 with ⟨-, d3, d4⟩ | ⟨d2, -⟩
    · exact ⟨by rw [d3, c3, kp.1], KK_new hen h fc a5 q2 (same_keep (KW_of h) a5 q1 c4 d4)⟩
    · exact absurd (kp.1.symm.trans d2) c2
  · rcases q3 with ⟨d2, -⟩ | ⟨-, d3, d4⟩
    · exact absurd (kp.1.trans c2) d2
    · exact ⟨by rw [d3, c3, ko], KK_new hen h fc a5 q2 (pl_keep (KW_of h) p1.1 p1.2 a5 q1 c2 c4 d4)⟩
theorem op_weave (hen : enI mr E) (h : KK c m E) {w T s W r q : Int} {c1 m1 : aM} (hP : (¬ (0 ≤ w ∧ w < 5) ∧ r = -2 ∧ c1 = c) ∨ ((0 ≤ w ∧ w < 5) ∧ ((c (40 + 2 * w.toNat) 1 = 0 ∧ r = -9 ∧ c1 = c) ∨ (c (40 + 2 * w.toNat) 1 ≠ 0 ∧ ((¬ ((0 ≤ T ∧ T ≤ 100000) ∧ (1 ≤ s ∧ s ≤ 200) ∧ (0 ≤ W ∧ W ≤ 500)) ∧ r = -3 ∧ c1 = c) ∨ (((0 ≤ T ∧ T ≤ 100000) ∧ (1 ≤ s ∧ s ≤ 200) ∧ (0 ≤ W ∧ W ≤ 500)) ∧ fr817 c c1 ∧ sOk c1 8 ∧ ((r = -1 ∧ (∀ v : Int, 0 ≤ v → v ≤ W → okT c (fun k => c (40 + 2 * w.toNat + 1) k) (c 1 11).toNat (c (40 + 2 * w.toNat) 1).toNat s (T + v) ≠ 0) ∧ sL c1 8 = sL c 8) ∨ ((0 ≤ r ∧ r ≤ W) ∧ okT c (fun k => c (40 + 2 * w.toNat + 1) k) (c 1 11).toNat (c (40 + 2 * w.toNat) 1).toNat s (T + r) = 0 ∧ (∀ v : Int, 0 ≤ v → v < r → okT c (fun k => c (40 + 2 * w.toNat + 1) k) (c 1 11).toNat (c (40 + 2 * w.toNat) 1).toNat s (T + v) ≠ 0) ∧ ((plL (eC c) (dC c) (outL (fun k => c (40 + 2 * w.toNat + 1) k) (c 1 11).toNat (T + r) s (c (40 + 2 * w.toNat) 1).toNat 0) (sL c 8)).2).Perm (sL c1 8))))))))) (hQ : mOk m1 ∧ frM m m1 ∧ ((¬ (0 ≤ w ∧ w < 5) ∧ q = -2 ∧ mL m1 = mL m) ∨ ((0 ≤ w ∧ w < 5) ∧ ((m 73 w = 0 ∧ q = -9 ∧ mL m1 = mL m) ∨ (m 73 w ≠ 0 ∧ ((¬ ((0 ≤ T ∧ T ≤ 100000) ∧ (1 ≤ s ∧ s ≤ 200) ∧ (0 ≤ W ∧ W ≤ 500)) ∧ q = -3 ∧ mL m1 = mL m) ∨ (((0 ≤ T ∧ T ≤ 100000) ∧ (1 ≤ s ∧ s ≤ 200) ∧ (0 ≤ W ∧ W ≤ 500)) ∧ ((q = -1 ∧ (∀ v : Int, 0 ≤ v → v ≤ W → okM m w s (T + v) ≠ 0) ∧ mL m1 = mL m) ∨ ((0 ≤ q ∧ q ≤ W) ∧ okM m w s (T + q) = 0 ∧ (∀ v : Int, 0 ≤ v → v < q → okM m w s (T + v) ≠ 0) ∧ ((plL (eM m) (dM m) (outL (fun k => m 72 (100 * w + k)) (m 58 6).toNat (T + q) s (m 73 w).toNat 0) (mL m)).2).Perm (mL m1)))))))))) : q = r ∧ KK c1 m1 E := by
  obtain ⟨q1, q2, q3⟩ := hQ
  have no : c1 = c → mL m1 = mL m → KK c1 m1 E := fun hc hM => KK_same hen h (fun x j _ _ => by rw [hc]) q1 q2 hM
  rcases hP with ⟨p1, p2, p3⟩ | ⟨p1, p2⟩
  · rcases q3 with ⟨-, q5, q6⟩ | ⟨q4, -⟩
    · exact ⟨by omega, no p3 q6⟩
    · exact absurd q4 p1
  rcases q3 with ⟨q4, -⟩ | ⟨-, q3⟩
  · exact absurd p1 q4
  have e73 := (kk_S h p1.1 p1.2).1
  rcases p2 with ⟨a1, a2, a3⟩ | ⟨a1, p2⟩
  · rcases q3 with ⟨-, b2, b3⟩ | ⟨b1, -⟩
    · exact ⟨by omega, no a3 b3⟩
    · omega
  rcases q3 with ⟨b1, -⟩ | ⟨b1, q3⟩
  · omega
  rcases p2 with ⟨a3, a4, a5⟩ | ⟨a3, a4, a5, p2⟩
  · rcases q3 with ⟨-, b4, b5⟩ | ⟨b3, -⟩
    · exact ⟨by omega, no a5 b5⟩
    · exact absurd b3 a3
  rcases q3 with ⟨b3, -⟩ | ⟨-, q3⟩
  · exact absurd a3 b3
  have k := wv_eq hen (KW_of h) p1.1 p1.2 (v := r) (u := q) (T := T) (s := s) (W := W) (c1 := c1) (m1 := m1) (Or.inr ⟨a1, a4, a5, p2⟩) (Or.inr ⟨b1, q1, q2, q3⟩)
  exact ⟨k.1, KK_lift h k.2.2.1 k.2.2.2 k.2.1⟩
theorem op_load (hen : enI mr E) (h : KK c m E) {w t r q : Int} {c1 m1 : aM} (hP : (¬ (0 ≤ w ∧ w < 5) ∧ r = -2 ∧ c1 = c) ∨ ((0 ≤ w ∧ w < 5) ∧ ((¬ (0 ≤ t ∧ t ≤ c 18 1) ∧ r = -3 ∧ c1 = c) ∨ ((0 ≤ t ∧ t ≤ c 18 1) ∧ ∃ (e ep : Int) (o : List Int), Fin9 (sgF (fun j => c 19 j) t) t (0, [], []) e ep o ∧ c1 18 1 = 0 ∧ c1 18 4 = e ∧ c1 18 5 = ep ∧ ((e ≠ 0 ∧ r = -30 - e ∧ (∀ (x : Nat) (j : Int), x ≠ 18 → x ≠ 20 → x ≠ 21 → x ≠ 22 → c1 x j = c x j)) ∨ (e = 0 ∧ r = (o.length : Int) ∧ (1 ≤ o.length ∧ o.length ≤ 100) ∧ (∀ x ∈ o, 0 ≤ x ∧ x < 4096) ∧ c1 (40 + 2 * w.toNat) 1 = (o.length : Int) ∧ AR c1 ((40 + 2 * w.toNat) + 1) o ∧ ∀ (x : Nat) (j : Int), x ≠ 18 → x ≠ 20 → x ≠ 21 → x ≠ 22 → x ≠ (40 + 2 * w.toNat) → x ≠ (40 + 2 * w.toNat) + 1 → c1 x j = c x j)))))) (hQ : (¬ (0 ≤ w ∧ w < 5) ∧ q = -2 ∧ m1 = m) ∨ ((0 ≤ w ∧ w < 5) ∧ ((¬ (0 ≤ t ∧ t ≤ m 58 23) ∧ q = -3 ∧ m1 = m) ∨ ((0 ≤ t ∧ t ≤ m 58 23) ∧ ∃ (e ep : Int) (o : List Int), Fin9 (sgF (fun j => m 71 j) t) t (0, [], []) e ep o ∧ m1 58 23 = 0 ∧ m1 58 29 = e ∧ m1 58 30 = ep ∧ ((e ≠ 0 ∧ q = -30 - e ∧ ∀ (x : Nat) (j : Int), x ≠ 74 → (x ≠ 58 ∨ j < 23 ∨ 30 < j) → m1 x j = m x j) ∨ (e = 0 ∧ q = (o.length : Int) ∧ (1 ≤ o.length ∧ o.length ≤ 100) ∧ (∀ x ∈ o, 0 ≤ x ∧ x < 4096) ∧ m1 73 w = (o.length : Int) ∧ (∀ i : Nat, i < o.length → m1 72 (100 * w + i) = o.getD i 0) ∧ ∀ (x : Nat) (j : Int), x ≠ 74 → (x ≠ 58 ∨ j < 23 ∨ 30 < j) → (x ≠ 73 ∨ j ≠ w) → (x ≠ 72 ∨ j < 100 * w ∨ 100 * w + 100 ≤ j) → m1 x j = m x j)))))) : q = r ∧ KK c1 m1 E := by
  have h7 := h.2.2.2.2.2.2.2.1
  have h5 := h.2.2.2.2.2.1
  rw [h7.1] at hQ
  rcases hP with ⟨p1, p2, p3⟩ | ⟨p1, p2⟩
  · rcases hQ with ⟨-, q5, q6⟩ | ⟨q4, -⟩
    · exact ⟨by omega, by rw [p3, q6]; exact h⟩
    · exact absurd q4 p1
  rcases hQ with ⟨q4, -⟩ | ⟨-, q3⟩
  · exact absurd p1 q4
  rcases p2 with ⟨a1, a2, a3⟩ | ⟨a1, e, ep, o, a2, a3, a4, a5, p2⟩
  · rcases q3 with ⟨-, b2, b3⟩ | ⟨b1, -⟩
    · exact ⟨by omega, by rw [a3, b3]; exact h⟩
    · exact absurd b1 a1
  rcases q3 with ⟨b1, -⟩ | ⟨-, e', ep', o', b2, b3, b4, b5, q3⟩
  · exact absurd a1 b1
  rw [kk_sg h a1.2] at b2
  have hd := Fin9_det a2 b2
  have k7 : ∀ hx : (∀ j : Int, j < 0 → True), K7 c1 m1 := fun _ => ⟨by rw [b3, a3], by rw [a3]; omega, by rw [b4, a4, hd.1], by rw [b5, a5, hd.2.1], fun j j0 j1 => by rw [a3] at j1; omega⟩
  rcases p2 with ⟨c2, c3, c4⟩ | ⟨c2, c3, c4, c5, c6, c7, c8⟩
  · rcases q3 with ⟨-, d3, d4⟩ | ⟨d2, -⟩
    · refine ⟨by rw [d3, c3, hd.1], KK_txt hen h (fun x j _ x1 _ x2 x3 x4 _ => c4 x j x1 x2 x3 x4) (fun x j _ _ _ _ x4 x5 => d4 x j x4 x5) (fun x x0 x1 => pOk_fr (fun j => c4 _ _ (by omega) (by omega) (by omega) (by omega)) (fun j => c4 _ _ (by omega) (by omega) (by omega) (by omega)) (kc_p h x x0 x1)) (K5_fr (fun x j x0 x1 => c4 _ _ (by omega) (by omega) (by omega) (by omega)) (fun x j x0 => d4 _ _ (by omega) (by omega)) h5) (k7 (fun _ _ => trivial))⟩
    · exact absurd (hd.1.trans d2) c2
  · rcases q3 with ⟨d2, -⟩ | ⟨-, d3, -, -, d6, d7, d8⟩
    · exact absurd (hd.1.symm.trans c2) d2
    have eo := hd.2.2 c2
    subst eo
    refine ⟨by rw [d3, c3], KK_txt hen h (fun x j x0 x1 _ x2 x3 x4 x5 => c8 x j x1 x2 x3 x4 (by omega) (by omega)) (fun x j _ _ x2 x3 x4 x5 => d8 x j x4 x5 (Or.inl x3) (Or.inl x2)) (fun x x0 x1 => ?_) (fun x x0 x1 => ?_) (k7 (fun _ _ => trivial))⟩
    · by_cases ex : x = w
      · subst ex
        refine ⟨by rw [c6]; omega, fun k k0 k1 => ?_⟩
        rw [c6] at k1
        have := AR_mem c7 c5 k.toNat (by omega)
        rw [Int.toNat_of_nonneg k0] at this
        exact this
      · exact pOk_fr (fun j => c8 _ _ (by omega) (by omega) (by omega) (by omega) (by omega) (by omega)) (fun j => c8 _ _ (by omega) (by omega) (by omega) (by omega) (by omega) (by omega)) (kc_p h x x0 x1)
    · by_cases ex : x = w
      · subst ex
        refine ⟨by rw [d6, c6], fun k k0 k1 => ?_⟩
        rw [c6] at k1
        have e1 := d7 k.toNat (by omega)
        have e2 := c7 k.toNat (by omega)
        rw [Int.toNat_of_nonneg k0] at e1 e2
        rw [e1, e2]
      · obtain ⟨g1, g2⟩ := h5 x x0 x1
        have gp := (kc_p h x x0 x1).1
        have gc : c1 (40 + 2 * x.toNat) 1 = c (40 + 2 * x.toNat) 1 := c8 _ _ (by omega) (by omega) (by omega) (by omega) (by omega) (by omega)
        refine ⟨by rw [gc, d8 73 x (by decide) (by omega) (Or.inr ex) (by omega)]; exact g1, fun k k0 k1 => ?_⟩
        rw [gc] at k1
        rw [c8 _ _ (by omega) (by omega) (by omega) (by omega) (by omega) (by omega), d8 72 _ (by decide) (by omega) (by omega) (by omega)]
        exact g2 k k0 k1
end OPS
