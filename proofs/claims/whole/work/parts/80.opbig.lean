-- part 80: strokes, patterns, text, entries, swings, advance on both sides (printed by wip/whole/gen/p80.py)
section OPS3
variable {mi : aM} {mr : aR} {E : Int → Nat}
theorem K8_pm {c c1 : aM} {b t0 t : Int} (h : K8 c) (h11 : c1 1 11 = c 1 11) (hb : b < c 1 11) (hp : (sL c1 8).Perm ((b, t0, t) :: sL c 8)) : K8 c1 := fun s hs => by
  rw [h11]
  rcases List.mem_cons.mp (hp.mem_iff.mp hs) with q | q
  · rw [q]; exact hb
  · exact h s q
theorem K8_eq {c c1 : aM} (h : K8 c) (h11 : c1 1 11 = c 1 11) (hs : sL c1 8 = sL c 8) : K8 c1 := fun s q => by
  rw [hs] at q; rw [h11]; exact h s q
theorem K8_rm {c c1 : aM} {z : Str} (h : K8 c) (h11 : c1 1 11 = c 1 11) (hp : (sL c 8).Perm (z :: sL c1 8)) : K8 c1 := fun s q => by
  rw [h11]; exact h s (hp.mem_iff.mpr (List.mem_cons_of_mem _ q))
theorem o_scheduleStroke (h : RS mi mr E) {b : Int} (h_b : -2147483648 ≤ b ∧ b ≤ 2147483647) {t : Int} (h_t : -2147483648 ≤ t ∧ t ≤ 2147483647) : OP yX6_scheduleStroke cX6_scheduleStroke 5 4 yX7_scheduleStroke cX7_scheduleStroke 4 4 [iI b, iI t] mi mr := by
  have hk0 := h.1.2.2
  have hen := h.1.2.1
  refine OP.i (s_X6_scheduleStroke h.1.1 h_b h_t (kc_B hk0) (kc_pl hk0) (kc_o hk0)) (fun r m1 hP => ?_)
  have fh : ∀ (x : Nat) (j : Int), (x < 8 ∨ 17 < x) → m1 x j = mi x j := fun x j hx => by
    by_cases hr : r < 0
    · exact hP.2.1 hr x j (by omega)
    · exact (hP.2.2 (by omega)).2.2.2.2 x j (by omega)
  have hk : KK mi (aup m1 58 0 0) E := RR_go h.1 (fun x j hx => fh x j (by omega))
  have h8 : K8 m1 := by
    by_cases hr : r < 0
    · exact K8_fr h.2 (fun x j q => hP.2.1 hr x j (by omega)) (by rw [fh 1 11 (by omega)]; exact Int.le_refl _)
    · obtain ⟨a1, a2, a3, -⟩ := hP.2.2 (by omega)
      exact K8_pm h.2 (fh 1 11 (by omega)) a1.2 a3
  refine ⟨_, s_X7_scheduleStroke h.1.1 h_b h_t (km_B hk) (km_o hk) (km_pl hk), fun q m2 hQ => ?_⟩
  have hA := op_sched hen hk hP hQ
  exact ⟨hA.1, E, RS_e h.1.1 hen (fun x j hx => (hQ.2.1 x j (by omega) (by omega)).trans (lo_up hx j)) hA.2 h8⟩
theorem o_cancelStroke (h : RS mi mr E) {b : Int} (h_b : -2147483648 ≤ b ∧ b ≤ 2147483647) {t : Int} (h_t : -2147483648 ≤ t ∧ t ≤ 2147483647) : OP yX6_cancelStroke cX6_cancelStroke 4 3 yX7_cancelStroke cX7_cancelStroke 4 3 [iI b, iI t] mi mr := by
  have hk0 := h.1.2.2
  have hen := h.1.2.1
  refine OP.i (s_X6_cancelStroke h.1.1 h_b h_t (kc_n hk0) (kc_o hk0)) (fun r m1 hP => ?_)
  have fh : ∀ (x : Nat) (j : Int), (x < 8 ∨ 17 < x) → m1 x j = mi x j := fun x j hx => by
    rcases hP with ⟨-, -, e⟩ | ⟨-, -, -, e⟩ | ⟨-, s, -, -, -, ⟨-, -, e⟩ | ⟨-, -, -, -, e⟩⟩
    · rw [e]
    · rw [e]
    · rw [e]
    · exact e x j (by omega)
  have hk : KK mi (aup m1 58 0 0) E := RR_go h.1 (fun x j hx => fh x j (by omega))
  have h8 : K8 m1 := by
    rcases hP with ⟨-, -, e⟩ | ⟨-, -, -, e⟩ | ⟨-, s, -, -, -, ⟨-, -, e⟩ | ⟨-, -, e, -⟩⟩
    · rw [e]; exact h.2
    · rw [e]; exact h.2
    · rw [e]; exact h.2
    · exact K8_rm h.2 (fh 1 11 (by omega)) e
  refine ⟨_, s_X7_cancelStroke h.1.1 h_b h_t (km_B hk) (km_o hk), fun q m2 hQ => ?_⟩
  have hA := op_cancel hen hk hP hQ
  exact ⟨hA.1, E, RS_e h.1.1 hen (fun x j hx => (hQ.2.1 x j (by omega) (by omega)).trans (lo_up hx j)) hA.2 h8⟩
theorem o_play (h : RS mi mr E) {w : Int} (h_w : -2147483648 ≤ w ∧ w ≤ 2147483647) {T : Int} (h_T : -2147483648 ≤ T ∧ T ≤ 2147483647) {s : Int} (h_s : -2147483648 ≤ s ∧ s ≤ 2147483647) : OP yX6_play cX6_play 5 5 yX7_play cX7_play 4 5 [iI w, iI T, iI s] mi mr := by
  have hk0 := h.1.2.2
  have hen := h.1.2.1
  refine OP.i (s_X6_play h.1.1 h_w h_T h_s (kc_B hk0) (kc_pl hk0) (kc_o hk0) (kc_p hk0)) (fun r m1 hP => ?_)
  have fh : ∀ (x : Nat) (j : Int), (x < 8 ∨ 17 < x) → m1 x j = mi x j := fun x j hx => by
    rcases hP with ⟨-, -, e⟩ | ⟨-, ⟨-, -, e⟩ | ⟨-, ⟨-, -, e⟩ | ⟨-, e, -⟩⟩⟩
    · rw [e]
    · rw [e]
    · rw [e]
    · exact e x j hx
  have hk : KK mi (aup m1 58 0 0) E := RR_go h.1 (fun x j hx => fh x j (by omega))
  have h8 : K8 m1 := by
    rcases hP with ⟨-, -, e⟩ | ⟨-, ⟨-, -, e⟩ | ⟨-, ⟨-, -, e⟩ | ⟨-, -, -, ⟨-, -, e⟩ | ⟨-, -, e⟩⟩⟩⟩
    · rw [e]; exact h.2
    · rw [e]; exact h.2
    · rw [e]; exact h.2
    · exact K8_eq h.2 (fh 1 11 (by omega)) e
    · exact pl_8 h.2 (kc_n hk0).1 (fh 1 11 (by omega)) e
  refine ⟨_, s_X7_play h.1.1 h_w h_T h_s (km_B hk) (km_o hk) (km_pl hk) (km_p hk), fun q m2 hQ => ?_⟩
  have hA := op_play hen hk hP hQ
  exact ⟨hA.1, E, RS_e h.1.1 hen (fun x j hx => (hQ.2.1 x j (by omega) (by omega)).trans (lo_up hx j)) hA.2 h8⟩
theorem o_weave (h : RS mi mr E) {w : Int} (h_w : -2147483648 ≤ w ∧ w ≤ 2147483647) {T : Int} (h_T : -2147483648 ≤ T ∧ T ≤ 2147483647) {s : Int} (h_s : -2147483648 ≤ s ∧ s ≤ 2147483647) {W : Int} (h_W : -2147483648 ≤ W ∧ W ≤ 2147483647) : OP yX6_weave cX6_weave 5 6 yX7_weave cX7_weave 5 6 [iI w, iI T, iI s, iI W] mi mr := by
  have hk0 := h.1.2.2
  have hen := h.1.2.1
  refine OP.i (s_X6_weave h.1.1 h_w h_T h_s h_W (kc_B hk0) (kc_pl hk0) (kc_o hk0) (kc_p hk0)) (fun r m1 hP => ?_)
  have fh : ∀ (x : Nat) (j : Int), (x < 8 ∨ 17 < x) → m1 x j = mi x j := fun x j hx => by
    rcases hP with ⟨-, -, e⟩ | ⟨-, ⟨-, -, e⟩ | ⟨-, ⟨-, -, e⟩ | ⟨-, e, -⟩⟩⟩
    · rw [e]
    · rw [e]
    · rw [e]
    · exact e x j hx
  have hk : KK mi (aup m1 58 0 0) E := RR_go h.1 (fun x j hx => fh x j (by omega))
  have h8 : K8 m1 := by
    rcases hP with ⟨-, -, e⟩ | ⟨-, ⟨-, -, e⟩ | ⟨-, ⟨-, -, e⟩ | ⟨-, -, -, ⟨-, -, e⟩ | ⟨-, -, -, e⟩⟩⟩⟩
    · rw [e]; exact h.2
    · rw [e]; exact h.2
    · rw [e]; exact h.2
    · exact K8_eq h.2 (fh 1 11 (by omega)) e
    · exact pl_8 h.2 (kc_n hk0).1 (fh 1 11 (by omega)) e
  refine ⟨_, s_X7_weave h.1.1 h_w h_T h_s h_W (km_B hk) (km_o hk) (km_pl hk) (km_p hk), fun q m2 hQ => ?_⟩
  have hA := op_weave hen hk hP hQ
  exact ⟨hA.1, E, RS_e h.1.1 hen (fun x j hx => (hQ.2.1 x j (by omega) (by omega)).trans (lo_up hx j)) hA.2 h8⟩
theorem o_loadPattern (h : RS mi mr E) {w : Int} (h_w : -2147483648 ≤ w ∧ w ≤ 2147483647) {t : Int} (h_t : -2147483648 ≤ t ∧ t ≤ 2147483647) : OP yX6_loadPattern cX6_loadPattern 4 6 yX7_loadPattern cX7_loadPattern 4 16 [iI w, iI t] mi mr := by
  have hk0 := h.1.2.2
  have hen := h.1.2.1
  refine OP.i (s_X6_loadPattern h.1.1 h_w h_t (kc_T hk0)) (fun r m1 hP => ?_)
  have fh : ∀ (x : Nat) (j : Int), x ≠ 18 → x ≠ 20 → x ≠ 21 → x ≠ 22 → (x < 40 ∨ 49 < x) → m1 x j = mi x j := fun x j a1 a2 a3 a4 a5 => by
    rcases hP with ⟨-, -, e⟩ | ⟨hw, ⟨-, -, e⟩ | ⟨-, z1, z2, z3, -, -, -, -, ⟨-, -, e⟩ | ⟨-, -, -, -, -, -, e⟩⟩⟩
    · rw [e]
    · rw [e]
    · exact e x j a1 a2 a3 a4
    · exact e x j a1 a2 a3 a4 (by omega) (by omega)
  have hk : KK mi (aup m1 58 0 0) E := RR_go h.1 (fun x j hx => fh x j (by omega) (by omega) (by omega) (by omega) (by omega))
  have h8 : K8 m1 := K8_fr h.2 (fun x j q => fh x j (by omega) (by omega) (by omega) (by omega) (by omega)) (by rw [fh 1 11 (by omega) (by omega) (by omega) (by omega) (by omega)]; exact Int.le_refl _)
  refine ⟨_, s_X7_loadPattern h.1.1 h_w h_t (km_T hk), fun q m2 hQ => ?_⟩
  have hA := op_load hen hk hP hQ
  refine ⟨hA.1, E, RS_e h.1.1 hen (fun x j hx => ?_) hA.2 h8⟩
  rw [← lo_up (m := m1) hx j]
  rcases hQ with ⟨-, -, e⟩ | ⟨hw, ⟨-, -, e⟩ | ⟨-, z1, z2, z3, -, -, -, -, ⟨-, -, e⟩ | ⟨-, -, -, -, -, -, e⟩⟩⟩
  · rw [e]
  · rw [e]
  · exact e x j (by omega) (by omega)
  · exact e x j (by omega) (by omega) (by omega) (by omega)
theorem o_appendBytes (h : RS mi mr E) {a : Int} (h_a : -2147483648 ≤ a ∧ a ≤ 2147483647) {b : Int} (h_b : -2147483648 ≤ b ∧ b ≤ 2147483647) {d : Int} (h_d : -2147483648 ≤ d ∧ d ≤ 2147483647) {e : Int} (h_e : -2147483648 ≤ e ∧ e ≤ 2147483647) {g : Int} (h_g : -2147483648 ≤ g ∧ g ≤ 2147483647) : OP yX6_appendBytes cX6_appendBytes 6 2 yX7_appendBytes cX7_appendBytes 8 2 [iI a, iI b, iI d, iI e, iI g] mi mr := by
  have hk0 := h.1.2.2
  have hen := h.1.2.1
  refine OP.i (s_X6_appendBytes h.1.1 h_a h_b h_d h_e h_g (kc_T hk0)) (fun r m1 hP => ?_)
  have fh : ∀ (x : Nat) (j : Int), x ≠ 18 → x ≠ 19 → m1 x j = mi x j := fun x j a1 a2 => by
    rcases hP with ⟨-, -, e⟩ | ⟨-, -, -, -, e⟩
    · rw [e]
    · exact e x j (by omega) (by omega)
  have hk : KK mi (aup m1 58 0 0) E := RR_go h.1 (fun x j hx => fh x j (by omega) (by omega))
  have h8 : K8 m1 := K8_fr h.2 (fun x j q => fh x j (by omega) (by omega)) (by rw [fh 1 11 (by omega) (by omega)]; exact Int.le_refl _)
  refine ⟨_, s_X7_appendBytes h.1.1 h_a h_b h_d h_e h_g (km_T hk), fun q m2 hQ => ?_⟩
  have k23 := hk.2.2.2.2.2.2.2.1.1
  rcases hP with ⟨p1, p2, p3⟩ | ⟨p1, p2, p3⟩
  · rcases hQ with ⟨-, q2, q3⟩ | ⟨q1, -⟩
    · refine ⟨by rw [p2, q2], E, ?_⟩
      rw [q3, p3]
      exact RS_p h
    · rw [k23] at q1; omega
  · rcases hQ with ⟨q1, -⟩ | ⟨-, q2, q3⟩
    · rw [k23] at q1; omega
    · refine ⟨by rw [p2, q2, k23], E, RS_e h.1.1 hen (fun x j hx => (q3.2.2 x j (by omega) (by omega)).trans (lo_up hx j)) (st_append hen hk p1 p3 q3) h8⟩
theorem o_removeEntry (h : RS mi mr E) {i : Int} (h_i : -2147483648 ≤ i ∧ i ≤ 2147483647) : OP yX6_removeEntry cX6_removeEntry 2 2 yX7_removeEntry cX7_removeEntry 2 3 [iI i] mi mr := by
  have hk0 := h.1.2.2
  have hen := h.1.2.1
  refine OP.g (s_X6_removeEntry h.1.1 h_i hen (kc_e8 hk0)) (fun r m1 s1 hP => ?_)
  have fh : ∀ (x : Nat) (j : Int), (x ≠ 1 ∨ j ≠ 12) → m1 x j = mi x j := fun x j a1 => by
    rcases hP with ⟨-, -, e, -⟩ | ⟨-, -, e, -⟩
    · rw [e]
    · rw [e]; rcases a1 with a1 | a1; (exact aup_a a1); (exact aup_k a1)
  have hR : Rok s1 := by
    rcases hP with ⟨-, -, -, e⟩ | ⟨-, -, -, e, -⟩
    · rw [e]; exact h.1.1
    · exact Rok_fr h.1.1 e
  have hk : KK mi (aup m1 58 0 0) E := RR_go h.1 (fun x j hx => fh x j (by omega))
  have h8 : K8 m1 := K8_fr h.2 (fun x j q => fh x j (by omega)) (by rw [fh 1 11 (by omega)]; exact Int.le_refl _)
  have k42 := hk.2.1.2.2.2.2.1
  refine ⟨_, s_X7_removeEntry hR h_i (km_e8 hk), fun q m2 hQ => ?_⟩
  rcases hP with ⟨p1, p2, p3, p4⟩ | ⟨p1, p2, p3, p4, p5⟩
  · rcases hQ with ⟨-, q2, q3⟩ | ⟨q1, -⟩
    · refine ⟨by rw [p2, q2], E, ?_⟩
      rw [q3, p3, p4]
      exact RS_p h
    · rw [k42] at q1; exact absurd q1 p1
  · rcases hQ with ⟨q1, -⟩ | ⟨-, q2, q3⟩
    · rw [k42] at q1; exact absurd p1 q1
    · refine ⟨by rw [p2, q2, k42], _, RS_e hR (edr_ok hen p1 (kc_e8 hk0).2 p5) (fun x j hx => (q3.2.1 x j (by omega) (by omega)).trans (lo_up hx j)) (by rw [p3]; rw [p3] at hk q3; exact st_remove hen hk p1 q3) h8⟩
theorem sw_str {c m : aM} {E : Int → Nat} (h : KK c m E) (b : Int) : (∀ i : Int, 0 ≤ i → i < c 8 4 → c 9 i ≠ b) ↔ ∀ i : Int, 0 ≤ i → i < m 58 18 → m 67 i ≠ b := by
  have hp := h.2.2.2.2.1.1
  constructor
  · intro q i i0 i1 e
    obtain ⟨k, k0, k1, k2⟩ := (sL_mem (kc_o h)).mp (hp.mem_iff.mpr ((mL_mem (km_o h)).mpr ⟨i, i0, i1, rfl⟩))
    have e2 : c 9 k = m 67 i := congrArg Prod.fst k2
    exact q k k0 k1 (e2.trans e)
  · intro q i i0 i1 e
    obtain ⟨k, k0, k1, k2⟩ := (mL_mem (km_o h)).mp (hp.mem_iff.mp ((sL_mem (kc_o h)).mpr ⟨i, i0, i1, rfl⟩))
    have e2 : m 67 k = c 9 i := congrArg Prod.fst k2
    exact q k k0 k1 (e2.trans e)
theorem o_startSwing (h : RS mi mr E) {b : Int} (h_b : -2147483648 ≤ b ∧ b ≤ 2147483647) {g : Int} (h_g : -2147483648 ≤ g ∧ g ≤ 2147483647) : OP yX6_startSwing cX6_startSwing 3 5 yX7_startSwing cX7_startSwing 3 3 [iI b, iI g] mi mr := by
  have hk0 := h.1.2.2
  have hen := h.1.2.1
  refine OP.i (s_X6_startSwing h.1.1 h_b h_g (kc_B hk0) (kc_o hk0) (kc_sl hk0) (kc_t0 hk0)) (fun r m1 hP => ?_)
  have fh : ∀ (x : Nat) (j : Int), x ≠ 3 → x ≠ 25 → x ≠ 26 → (x < 28 ∨ 39 < x) → m1 x j = mi x j := fun x j a1 a2 a3 a4 => by
    rcases hP with ⟨-, -, e⟩ | ⟨hb, ⟨-, -, e⟩ | ⟨-, ⟨-, -, e⟩ | ⟨-, ⟨-, -, e⟩ | ⟨-, ⟨-, -, e⟩ | ⟨-, -, e⟩⟩⟩⟩⟩
    · exact e x j a1 a2 a3
    · exact e x j a1 a2 a3
    · exact e x j a1 a2 a3
    · exact e x j a1 a2 a3
    · exact e x j a1 a2 a3
    · have hn := kc_n hk0
      rw [e x j a1 a2 a3]; exact stB_o (by omega) j
  have hk : KK mi (aup m1 58 0 0) E := RR_go h.1 (fun x j hx => fh x j (by omega) (by omega) (by omega) (by omega))
  have h8 : K8 m1 := K8_fr h.2 (fun x j q => fh x j (by omega) (by omega) (by omega) (by omega)) (by rw [fh 1 11 (by omega) (by omega) (by omega) (by omega)]; exact Int.le_refl _)
  refine ⟨_, s_X7_startSwing h.1.1 h_b h_g (km_B hk) (km_W hk) (km_o hk) (km_sl hk) (km_t0 hk), fun q m2 hQ => ?_⟩
  rw [hk.2.1.1, hk.2.1.2.2.1, hk.2.1.2.2.2.1] at hQ
  rcases hP with ⟨p1, p2, p3⟩ | ⟨p1, hP⟩
  · rcases hQ with ⟨-, q2, q3⟩ | ⟨q1, -⟩
    · exact ⟨by rw [p2, q2], E, RS_q h (fun x j hx => p3 x j (by omega) (by omega) (by omega)) (fun x j a0 a1 a2 a3 a4 => p3 x j (by omega) (by omega) (by omega)) (fun x j hx => (q3 x j (by omega) (by omega)).trans (lo_up hx j)) (fun x j a0 a1 a2 a3 a4 => q3 x j (by omega) (by omega)) (fun j j0 j1 => ⟨q3 _ _ (by decide) (by decide), q3 _ _ (by decide) (by decide), q3 _ _ (by decide) (by decide)⟩)⟩
    · exact absurd q1 p1
  rcases hQ with ⟨q1, -⟩ | ⟨-, hQ⟩
  · exact absurd p1 q1
  have k2 := kk2 hk p1.1 p1.2
  rw [k2.1.2.2, k2.2.1.2.2.2, ← gs_eq hk p1.1 p1.2 0, ← sw_str hk b] at hQ
  rcases hP with ⟨p4, p2, p3⟩ | ⟨p4, hP⟩
  · rcases hQ with ⟨-, q2, q3⟩ | ⟨q1, -⟩
    · exact ⟨by rw [p2, q2], E, RS_q h (fun x j hx => p3 x j (by omega) (by omega) (by omega)) (fun x j a0 a1 a2 a3 a4 => p3 x j (by omega) (by omega) (by omega)) (fun x j hx => (q3 x j (by omega) (by omega)).trans (lo_up hx j)) (fun x j a0 a1 a2 a3 a4 => q3 x j (by omega) (by omega)) (fun j j0 j1 => ⟨q3 _ _ (by decide) (by decide), q3 _ _ (by decide) (by decide), q3 _ _ (by decide) (by decide)⟩)⟩
    · exact absurd q1 p4
  rcases hQ with ⟨q1, -⟩ | ⟨-, hQ⟩
  · exact absurd p4 q1
  rcases hP with ⟨p5, p2, p3⟩ | ⟨p5, hP⟩
  · rcases hQ with ⟨-, q2, q3⟩ | ⟨q1, -⟩
    · exact ⟨by rw [p2, q2], E, RS_q h (fun x j hx => p3 x j (by omega) (by omega) (by omega)) (fun x j a0 a1 a2 a3 a4 => p3 x j (by omega) (by omega) (by omega)) (fun x j hx => (q3 x j (by omega) (by omega)).trans (lo_up hx j)) (fun x j a0 a1 a2 a3 a4 => q3 x j (by omega) (by omega)) (fun j j0 j1 => ⟨q3 _ _ (by decide) (by decide), q3 _ _ (by decide) (by decide), q3 _ _ (by decide) (by decide)⟩)⟩
    · exact absurd q1 p5
  rcases hQ with ⟨q1, -⟩ | ⟨-, hQ⟩
  · exact absurd p5 q1
  rcases hP with ⟨p6, p2, p3⟩ | ⟨p6, hP⟩
  · rcases hQ with ⟨-, q2, q3⟩ | ⟨q1, -⟩
    · exact ⟨by rw [p2, q2], E, RS_q h (fun x j hx => p3 x j (by omega) (by omega) (by omega)) (fun x j a0 a1 a2 a3 a4 => p3 x j (by omega) (by omega) (by omega)) (fun x j hx => (q3 x j (by omega) (by omega)).trans (lo_up hx j)) (fun x j a0 a1 a2 a3 a4 => q3 x j (by omega) (by omega)) (fun j j0 j1 => ⟨q3 _ _ (by decide) (by decide), q3 _ _ (by decide) (by decide), q3 _ _ (by decide) (by decide)⟩)⟩
    · exact absurd q1 p6
  rcases hQ with ⟨q1, -⟩ | ⟨-, hQ⟩
  · exact absurd p6 q1
  rcases hP with ⟨p7, p2, p3⟩ | ⟨p7, p2, p3⟩
  · rcases hQ with ⟨-, q2, q3⟩ | ⟨q1, -⟩
    · exact ⟨by rw [p2, q2], E, RS_q h (fun x j hx => p3 x j (by omega) (by omega) (by omega)) (fun x j a0 a1 a2 a3 a4 => p3 x j (by omega) (by omega) (by omega)) (fun x j hx => (q3 x j (by omega) (by omega)).trans (lo_up hx j)) (fun x j a0 a1 a2 a3 a4 => q3 x j (by omega) (by omega)) (fun j j0 j1 => ⟨q3 _ _ (by decide) (by decide), q3 _ _ (by decide) (by decide), q3 _ _ (by decide) (by decide)⟩)⟩
    · omega
  rcases hQ with ⟨q1, -⟩ | ⟨-, q2, q3⟩
  · omega
  have st := st_start hen hk p1 p4
  have tA : ∀ (x : Nat) (j : Int), x < 58 → stA (aup m1 58 0 0) b g x j = m1 x j := fun x j hx => by
    unfold stA
    rw [aup_a (by omega), aup_a (by omega), aup_a (by omega), aup_a (by omega), aup_a (by omega), aup_a (by omega)]
    exact lo_up hx j
  refine ⟨by rw [p2, q2], E, RS_e h.1.1 hen (fun x j hx => (q3 x j (by omega) (by omega)).trans (tA x j hx)) ?_ h8⟩
  exact KK_m hen (fun x j a0 a1 a2 a3 a4 => q3 x j (by omega) (by omega)) (fun j j0 j1 => ⟨q3 _ _ (by decide) (by decide), q3 _ _ (by decide) (by decide), q3 _ _ (by decide) (by decide)⟩) (KK_c hen (fun x j a0 a1 a2 a3 a4 => p3 x j (by omega) (by omega) (by omega)) st)
theorem o_advance (h : RS mi mr E) {t : Int} (h_t : -2147483648 ≤ t ∧ t ≤ 2147483647) : OP yX6_advance cX6_advance 4 8 yX7_advance cX7_advance 5 7 [iI t] mi mr := by
  have hk0 := h.1.2.2
  have hen := h.1.2.1
  refine OP.g (s_X6_advance h.1.1 h_t hen hk0.1.1) (fun r m1 s1 hP => ?_)
  have fh : ∀ (x : Nat) (j : Int), 58 ≤ x → m1 x j = mi x j := fun x j hx => by
    rcases hP with ⟨-, -, e, -⟩ | ⟨-, -, -, e, -⟩ | ⟨a1, a2, E', a3, -⟩
    · rw [e]
    · rw [e]
    · exact tkN_hi _ _ _ _ _ _ mr hen hk0.1.1 (by omega) a3 x j hx
  have hR : Rok s1 := by
    rcases hP with ⟨-, -, -, e⟩ | ⟨-, -, -, -, e⟩ | ⟨-, -, E', -, -, e, -⟩
    · rw [e]; exact h.1.1
    · rw [e]; exact h.1.1
    · exact Rok_fr h.1.1 e
  have hk : KK mi (aup m1 58 0 0) E := RR_go h.1 fh
  refine ⟨_, s_X7_advance hR h_t (km_av hk), fun q m2 hQ => ?_⟩
  obtain ⟨hA, E', h2, h3, h4⟩ := op_adv hen hk h.2 hP hQ
  refine ⟨hA, E', RS_e hR h2 (fun x j hx => ?_) h3 h4⟩
  rw [← lo_up (m := m1) hx j]
  rcases hQ with ⟨-, -, e⟩ | ⟨-, -, -, e⟩ | ⟨-, -, e, -⟩
  · rw [e]
  · rw [e]
  · exact tkMN_lo _ _ _ e x j hx
end OPS3
