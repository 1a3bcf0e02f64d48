-- part 79: calls with rows of their own, small changes, on both sides (printed by wip/whole/gen/p79.py)
section OPS2
variable {yC yM : MethodName} {bC bN : ByteArray} {nC dC nN dN : Nat} {As : List Value} {mi : aM} {mr : aR} {E : Int → Nat}
theorem an_early {c m : aM} (h : KK c m E) {b f z r q : Int} (hP : (¬ (0 ≤ b ∧ b < c 1 11) ∧ r = -2) ∨ ((0 ≤ b ∧ b < c 1 11) ∧ ((¬ (0 ≤ f ∧ f ≤ 100000) ∧ r = -3) ∨ ((0 ≤ f ∧ f ≤ 100000) ∧ ((c (28 + b.toNat) 6 ≠ 0 ∧ r = -6) ∨ (c (28 + b.toNat) 6 = 0 ∧ ((300 ≤ c 8 4 ∧ r = -4) ∨ (c 8 4 < 300 ∧ frsT (fun t => eC c (sL c 8) b t) f z r)))))))) (hQ : (¬ (0 ≤ b ∧ b < m 58 6) ∧ q = -2) ∨ ((0 ≤ b ∧ b < m 58 6) ∧ ((¬ (0 ≤ f ∧ f ≤ 100000) ∧ q = -3) ∨ ((0 ≤ f ∧ f ≤ 100000) ∧ ((m 86 b ≠ 0 ∧ q = -6) ∨ (m 86 b = 0 ∧ ((300 ≤ m 58 18 ∧ q = -4) ∨ (m 58 18 < 300 ∧ frsT (fun t => eM m (mL m) b t) f z q)))))))) : q = r := by
  rw [h.2.1.1, h.2.2.2.2.1.2.1] at hQ
  rcases hP with ⟨a1, a2⟩ | ⟨a1, hP⟩
  · rcases hQ with ⟨-, b2⟩ | ⟨b1, -⟩
    · rw [a2, b2]
    · exact absurd b1 a1
  · rcases hQ with ⟨b1, -⟩ | ⟨-, hQ⟩
    · exact absurd a1 b1
    · rcases hP with ⟨c1, c2⟩ | ⟨c1, hP⟩
      · rcases hQ with ⟨-, d2⟩ | ⟨d1, -⟩
        · rw [c2, d2]
        · exact absurd d1 c1
      · rcases hQ with ⟨d1, -⟩ | ⟨-, hQ⟩
        · exact absurd c1 d1
        · rw [(kk2 h a1.1 a1.2).1.2.2] at hQ
          rcases hP with ⟨e1, e2⟩ | ⟨e1, hP⟩
          · rcases hQ with ⟨-, g2⟩ | ⟨g1, -⟩
            · rw [e2, g2]
            · exact absurd g1 e1
          · rcases hQ with ⟨g1, -⟩ | ⟨-, hQ⟩
            · exact absurd e1 g1
            · rcases hP with ⟨u1, u2⟩ | ⟨u1, hP⟩
              · rcases hQ with ⟨-, w2⟩ | ⟨w1, -⟩
                · rw [u2, w2]
                · omega
              · rcases hQ with ⟨w1, -⟩ | ⟨-, hQ⟩
                · omega
                · exact frsT_det (fun t => kk_e h h.2.2.2.2.1.1 a1.1 a1.2) hP hQ
theorem o_earliestStroke (h : RS mi mr E) {b : Int} (h_b : -2147483648 ≤ b ∧ b ≤ 2147483647) {f : Int} (h_f : -2147483648 ≤ f ∧ f ≤ 2147483647) : OP yX6_earliestStroke cX6_earliestStroke 5 4 yX7_earliestStroke cX7_earliestStroke 4 3 [iI b, iI f] mi mr := by
  have hk0 := h.1.2.2
  refine OP.i (s_X6_earliestStroke h.1.1 h_b h_f (kc_B hk0) (kc_pl hk0) (kc_o hk0)) (fun r m1 hP => ?_)
  have fh : ∀ (x : Nat) (j : Int), 58 ≤ x → m1 x j = mi x j := fun x j hx => hP.1 x j (by omega)
  have hk : KK mi (aup m1 58 0 0) E := RR_go h.1 fh
  refine ⟨_, s_X7_earliestStroke h.1.1 h_b h_f (km_B hk) (km_o hk) (km_pl hk), fun q m2 hQ => ?_⟩
  have hA := an_early hk hP.2 hQ.2
  exact ⟨hA, E, RS_q h fh (fun x j a0 a1 a2 a3 a4 => hP.1 x j (by omega)) (fun x j hx => (hQ.1 x j (by omega)).trans (lo_up hx j)) (fun x j a0 a1 a2 a3 a4 => hQ.1 x j (by omega)) (fun j j0 j1 => ⟨hQ.1 _ _ (by decide), hQ.1 _ _ (by decide), hQ.1 _ _ (by decide)⟩)⟩
theorem o_fastestTicks (h : RS mi mr E) {w : Int} (h_w : -2147483648 ≤ w ∧ w ≤ 2147483647) : OP yX6_fastestTicks cX6_fastestTicks 3 5 yX7_fastestTicks cX7_fastestTicks 6 5 [iI w] mi mr := by
  have hk0 := h.1.2.2
  refine OP.i (s_X6_fastestTicks h.1.1 h_w (kc_B hk0) (kc_pl hk0) (kc_p hk0)) (fun r m1 hP => ?_)
  have fh : ∀ (x : Nat) (j : Int), 58 ≤ x → m1 x j = mi x j := fun x j hx => hP.1 x j (by omega)
  have hk : KK mi (aup m1 58 0 0) E := RR_go h.1 fh
  refine ⟨_, s_X7_fastestTicks h.1.1 h_w (km_B hk) (km_pl hk) (km_p hk) (km_o hk) (km_86 hk), fun q m2 hQ => ?_⟩
  have hA := an_fast hk hP.2 hQ
  exact ⟨hA.1, E, RS_q h fh (fun x j a0 a1 a2 a3 a4 => hP.1 x j (by omega)) (fun x j hx => (hA.2.1 x j (by omega)).trans (lo_up hx j)) (fun x j a0 a1 a2 a3 a4 => hA.2.1 x j (by omega)) (fun j j0 j1 => hA.2.2 j j0 j1)⟩
theorem o_powerNeeded (h : RS mi mr E) {w : Int} (h_w : -2147483648 ≤ w ∧ w ≤ 2147483647) {s : Int} (h_s : -2147483648 ≤ s ∧ s ≤ 2147483647) : OP yX6_powerNeeded cX6_powerNeeded 6 4 yX7_powerNeeded cX7_powerNeeded 7 3 [iI w, iI s] mi mr := by
  have hk0 := h.1.2.2
  refine OP.i (s_X6_powerNeeded h.1.1 h_w h_s (kc_B hk0) (kc_p hk0)) (fun r m1 hP => ?_)
  have fh : ∀ (x : Nat) (j : Int), 58 ≤ x → m1 x j = mi x j := fun x j hx => hP.1 x j (by omega)
  have hk : KK mi (aup m1 58 0 0) E := RR_go h.1 fh
  refine ⟨_, s_X7_powerNeeded h.1.1 h_w h_s (km_B hk) (km_p hk), fun q m2 hQ => ?_⟩
  have hA := an_power hk hP.2 hQ.2
  exact ⟨hA, E, RS_q h fh (fun x j a0 a1 a2 a3 a4 => hP.1 x j (by omega)) (fun x j hx => by rw [hQ.1]; exact lo_up hx j) (fun x j a0 a1 a2 a3 a4 => by rw [hQ.1]) (fun j j0 j1 => by rw [hQ.1]; exact ⟨rfl, rfl, rfl⟩)⟩
theorem o_amplitudeAfter (h : RS mi mr E) {b : Int} (h_b : -2147483648 ≤ b ∧ b ≤ 2147483647) {t : Int} (h_t : -2147483648 ≤ t ∧ t ≤ 2147483647) : OP yX6_amplitudeAfter cX6_amplitudeAfter 4 4 yX7_amplitudeAfter cX7_amplitudeAfter 3 4 [iI b, iI t] mi mr := by
  have hk0 := h.1.2.2
  refine OP.i (s_X6_amplitudeAfter h.1.1 h_b h_t (kc_B hk0)) (fun r m1 hP => ?_)
  have fh : ∀ (x : Nat) (j : Int), 58 ≤ x → m1 x j = mi x j := fun x j hx => hP.1 x j (by omega)
  have hk : KK mi (aup m1 58 0 0) E := RR_go h.1 fh
  refine ⟨_, s_X7_amplitudeAfter h.1.1 h_b h_t (km_B hk) (km_W hk), fun q m2 hQ => ?_⟩
  have hA := hQ.2.trans ((an_ampAfter hk).trans hP.2.symm)
  exact ⟨hA, E, RS_q h fh (fun x j a0 a1 a2 a3 a4 => hP.1 x j (by omega)) (fun x j hx => by rw [hQ.1]; exact lo_up hx j) (fun x j a0 a1 a2 a3 a4 => by rw [hQ.1]) (fun j j0 j1 => by rw [hQ.1]; exact ⟨rfl, rfl, rfl⟩)⟩
theorem o_turnsUntilLoud (h : RS mi mr E) {b : Int} (h_b : -2147483648 ≤ b ∧ b ≤ 2147483647) : OP yX6_turnsUntilLoud cX6_turnsUntilLoud 3 4 yX7_turnsUntilLoud cX7_turnsUntilLoud 3 3 [iI b] mi mr := by
  have hk0 := h.1.2.2
  refine OP.i (s_X6_turnsUntilLoud h.1.1 h_b (kc_B hk0)) (fun r m1 hP => ?_)
  have fh : ∀ (x : Nat) (j : Int), 58 ≤ x → m1 x j = mi x j := fun x j hx => hP.1 x j (by omega)
  have hk : KK mi (aup m1 58 0 0) E := RR_go h.1 fh
  refine ⟨_, s_X7_turnsUntilLoud h.1.1 h_b (km_B hk) (km_W hk), fun q m2 hQ => ?_⟩
  have hA := an_loud hk hP.2 hQ.2
  exact ⟨hA, E, RS_q h fh (fun x j a0 a1 a2 a3 a4 => hP.1 x j (by omega)) (fun x j hx => by rw [hQ.1]; exact lo_up hx j) (fun x j a0 a1 a2 a3 a4 => by rw [hQ.1]) (fun j j0 j1 => by rw [hQ.1]; exact ⟨rfl, rfl, rfl⟩)⟩
theorem o_shake (h : RS mi mr E) {k : Int} (h_k : -2147483648 ≤ k ∧ k ≤ 2147483647) : OP yX6_shake cX6_shake 2 5 yX7_shake cX7_shake 2 3 [iI k] mi mr := by
  have hk0 := h.1.2.2
  refine OP.i (s_X6_shake h.1.1 h_k (kc_B hk0)) (fun r m1 hP => ?_)
  have fh : ∀ (x : Nat) (j : Int), 58 ≤ x → m1 x j = mi x j := fun x j hx => hP.1 x j (by omega) (by omega) (by omega)
  have hk : KK mi (aup m1 58 0 0) E := RR_go h.1 fh
  refine ⟨_, s_X7_shake h.1.1 h_k (km_B hk) (km_W hk) (km_S hk), fun q m2 hQ => ?_⟩
  have hA := hQ.2.trans ((an_shake hk).trans hP.2.symm)
  exact ⟨hA, E, RS_q h fh (fun x j a0 a1 a2 a3 a4 => hP.1 x j (by omega) (by omega) (by omega)) (fun x j hx => (hQ.1 x j (by omega) (by omega)).trans (lo_up hx j)) (fun x j a0 a1 a2 a3 a4 => hQ.1 x j (by omega) (by omega)) (fun j j0 j1 => ⟨hQ.1 _ _ (by decide) (by decide), hQ.1 _ _ (by decide) (by decide), hQ.1 _ _ (by decide) (by decide)⟩)⟩
theorem o_greatestShake (h : RS mi mr E) {k : Int} (h_k : -2147483648 ≤ k ∧ k ≤ 2147483647) : OP yX6_greatestShake cX6_greatestShake 2 5 yX7_greatestShake cX7_greatestShake 4 3 [iI k] mi mr := by
  have hk0 := h.1.2.2
  refine OP.i (s_X6_greatestShake h.1.1 h_k (kc_B hk0)) (fun r m1 hP => ?_)
  have fh : ∀ (x : Nat) (j : Int), 58 ≤ x → m1 x j = mi x j := fun x j hx => hP.1 x j (by omega) (by omega) (by omega)
  have hk : KK mi (aup m1 58 0 0) E := RR_go h.1 fh
  refine ⟨_, s_X7_greatestShake h.1.1 h_k (km_B hk) (km_W hk), fun q m2 hQ => ?_⟩
  have hA := hQ.2.trans ((an_great hk).trans hP.2.symm)
  exact ⟨hA, E, RS_q h fh (fun x j a0 a1 a2 a3 a4 => hP.1 x j (by omega) (by omega) (by omega)) (fun x j hx => (hQ.1 x j (by omega) (by omega)).trans (lo_up hx j)) (fun x j a0 a1 a2 a3 a4 => hQ.1 x j (by omega) (by omega)) (fun j j0 j1 => ⟨hQ.1 _ _ (by decide) (by decide), hQ.1 _ _ (by decide) (by decide), hQ.1 _ _ (by decide) (by decide)⟩)⟩
theorem o_calmestWait (h : RS mi mr E) {b : Int} (h_b : -2147483648 ≤ b ∧ b ≤ 2147483647) {g : Int} (h_g : -2147483648 ≤ g ∧ g ≤ 2147483647) : OP yX6_calmestWait cX6_calmestWait 8 5 yX7_calmestWait cX7_calmestWait 7 3 [iI b, iI g] mi mr := by
  have hk0 := h.1.2.2
  refine OP.i (s_X6_calmestWait h.1.1 h_b h_g (kc_B hk0)) (fun r m1 hP => ?_)
  have fh : ∀ (x : Nat) (j : Int), 58 ≤ x → m1 x j = mi x j := fun x j hx => hP.1 x j (by omega) (by omega) (by omega)
  have hk : KK mi (aup m1 58 0 0) E := RR_go h.1 fh
  refine ⟨_, s_X7_calmestWait h.1.1 h_b h_g (km_B hk) (km_W hk), fun q m2 hQ => ?_⟩
  have hA := an_calm hk hP.2 hQ.2
  exact ⟨hA, E, RS_q h fh (fun x j a0 a1 a2 a3 a4 => hP.1 x j (by omega) (by omega) (by omega)) (fun x j hx => (hQ.1 x j (by omega) (by omega)).trans (lo_up hx j)) (fun x j a0 a1 a2 a3 a4 => hQ.1 x j (by omega) (by omega)) (fun j j0 j1 => ⟨hQ.1 _ _ (by decide) (by decide), hQ.1 _ _ (by decide) (by decide), hQ.1 _ _ (by decide) (by decide)⟩)⟩
/-- a small change: refused, or one state behind -/
theorem OP.c {r0 : Int} {C : aM} {q0 : aM → Int} {D : aM → aM} (h : RS mi mr E) (hC : SPg yC bC nC (some .int) dC (.ref 1 :: As) mi mr (Pi mr (fun r m => r = r0 ∧ (r < 0 → m = mi) ∧ (0 ≤ r → m = C)))) (fC : 0 ≤ r0 → ∀ (x : Nat) (j : Int), 58 ≤ x → C x j = mi x j) (hM : ∀ m1 : aM, (∀ (x : Nat) (j : Int), 58 ≤ x → m1 x j = mi x j) → SPg yM bN nN (some .int) dN (.ref 58 :: As) m1 mr (Pi mr (fun q m => q = q0 m1 ∧ (q < 0 → m = aup m1 58 0 0) ∧ (0 ≤ q → m = D m1)))) (hq : ∀ m1 : aM, (∀ (x : Nat) (j : Int), 58 ≤ x → m1 x j = mi x j) → q0 m1 = r0) (hD : 0 ≤ r0 → RS (D C) mr E) : OP yC bC nC dC yM bN nN dN As mi mr := by
  refine OP.i hC (fun r m1 hP => ?_)
  obtain ⟨p1, p2, p3⟩ := hP
  have fh : ∀ (x : Nat) (j : Int), 58 ≤ x → m1 x j = mi x j := fun x j hx => by
    by_cases hr : r < 0
    · rw [p2 hr]
    · rw [p3 (by omega)]; exact fC (by omega) x j hx
  refine ⟨_, hM m1 fh, fun q m2 hQ => ?_⟩
  obtain ⟨q1, q2, q3⟩ := hQ
  have e : q = r0 := q1.trans (hq m1 fh)
  refine ⟨by omega, E, ?_⟩
  by_cases hr : r < 0
  · rw [q2 (by omega), p2 hr]; exact RS_p h
  · rw [q3 (by omega), p3 (by omega)]; exact hD (by omega)
theorem o_addBell (h : RS mi mr E) {d : Int} (h_d : -2147483648 ≤ d ∧ d ≤ 2147483647) {e : Int} (h_e : -2147483648 ≤ e ∧ e ≤ 2147483647) {w : Int} (h_w : -2147483648 ≤ w ∧ w ≤ 2147483647) {g : Int} (h_g : -2147483648 ≤ g ∧ g ≤ 2147483647) : OP yX6_addBell cX6_addBell 6 2 yX7_addBell cX7_addBell 5 3 [iI d, iI e, iI w, iI g] mi mr := by
  have hk0 := h.1.2.2
  have hen := h.1.2.1
  have hn0 := kc_n hk0
  refine OP.c h (s_X6_addBell h.1.1 h_d h_e h_w h_g (kc_n hk0)) (fun hr x j hx => abC_o (c := mi) (by omega) (by omega)) (fun m1 f => s_X7_addBell h.1.1 h_d h_e h_w h_g (by rw [f 58 6 (by decide)]; exact km_n hk0)) (fun m1 f => by rw [f 58 6 (by decide), hk0.2.1.1]) (fun hr => ?_)
  have hc : ((1 ≤ d ∧ d ≤ 50) ∧ (0 ≤ e ∧ e ≤ 100) ∧ (1 ≤ w ∧ w ≤ 99) ∧ (10 ≤ g ∧ g ≤ 60)) ∧ mi 1 11 < 12 := by
    split at hr
    · next hx =>
      split at hr
      · omega
      · exact ⟨hx, by omega⟩
    · omega
  have fC : ∀ (x : Nat) (j : Int), 58 ≤ x → abC mi (mi 1 11) d e w g x j = mi x j := fun x j hx => abC_o (by omega) (by omega)
  have hk : KK mi (aup (abC mi (mi 1 11) d e w g) 58 0 0) E := RR_go h.1 fC
  have e6 : abC mi (mi 1 11) d e w g 58 6 = mi 1 11 := (fC 58 6 (by decide)).trans hk0.2.1.1
  have key : RS (abM (aup (abC mi (mi 1 11) d e w g) 58 0 0) (abC mi (mi 1 11) d e w g 58 6) d e w g) mr E := by
    rw [e6]
    exact RS_e h.1.1 hen (fun x j hx => (abM_o (by omega) (by omega)).trans (lo_up hx j)) (st_addBell hen hk hc.2 hc.1.1 hc.1.2.1 hc.1.2.2.1 hc.1.2.2.2) (K8_fr h.2 (fun x j q => abC_o (by omega) (by omega)) (by rw [abC_v.1]; omega))
  exact key
theorem o_calibrate (h : RS mi mr E) {b : Int} (h_b : -2147483648 ≤ b ∧ b ≤ 2147483647) {x : Int} (h_x : -2147483648 ≤ x ∧ x ≤ 2147483647) : OP yX6_calibrate cX6_calibrate 4 2 yX7_calibrate cX7_calibrate 3 3 [iI b, iI x] mi mr := by
  have hk0 := h.1.2.2
  have hen := h.1.2.1
  have hn0 := kc_n hk0
  refine OP.c h (s_X6_calibrate h.1.1 h_b h_x (kc_B hk0)) (fun hr x j hx => aup_a (by omega)) (fun m1 f => s_X7_calibrate h.1.1 h_b h_x (by rw [f 58 6 (by decide)]; exact km_n hk0) (fun i i0 i1 => by rw [f 58 6 (by decide)] at i1; rw [f 59 i (by decide)]; exact km_d hk0 i i0 i1)) (fun m1 f => by rw [f 58 6 (by decide), f 59 b (by decide)]; exact if_b hk0 (fun b0 b1 => by rw [(kk2 hk0 b0 b1).2.1.1])) (fun hr => ?_)
  have hc : (0 ≤ b ∧ b < mi 1 11) ∧ (1 ≤ x ∧ x ≤ 50) := by
    split at hr
    · next hx => exact ⟨hx, by split at hr <;> omega⟩
    · omega
  have hb : 0 ≤ b ∧ b < mi 1 11 := hc.1
  have k2 := kk2 hk0 hb.1 hb.2
  have q := kk_bell hk0 (b := b) ⟨hb.1, by omega⟩
  have hx := hc.2
  have hd := km_d hk0 b hb.1 (by rw [hk0.2.1.1]; exact hb.2)
  rw [k2.2.1.1] at hd
  have hV : 1 ≤ (3 * mi (28 + b.toNat) 0 + x + 2).tdiv 4 ∧ (3 * mi (28 + b.toNat) 0 + x + 2).tdiv 4 ≤ 50 := by
    rw [Int.tdiv_eq_ediv_of_nonneg (by omega)]; omega
  have fC : ∀ (y : Nat) (j : Int), 58 ≤ y → aup mi (28 + b.toNat) 0 ((3 * mi (28 + b.toNat) 0 + x + 2).tdiv 4) y j = mi y j := fun y j hy => aup_a (by omega)
  have hk : KK mi (aup (aup mi (28 + b.toNat) 0 ((3 * mi (28 + b.toNat) 0 + x + 2).tdiv 4)) 58 0 0) E := RR_go h.1 fC
  have key : RS (aup (aup (aup mi (28 + b.toNat) 0 ((3 * mi (28 + b.toNat) 0 + x + 2).tdiv 4)) 58 0 0) 59 b ((3 * mi (28 + b.toNat) 0 + x + 2).tdiv 4)) mr E := RS_e h.1.1 hen (fun x j hx => (aup_a (by omega)).trans (lo_up hx j)) (st_cell hen hk hb (Or.inr (Or.inr ⟨rfl, rfl, hV⟩))) (K8_fr h.2 (fun x j q => aup_a (by omega)) (by rw [aup_a (by omega)]; exact Int.le_refl _))
  have e59 : aup mi (28 + b.toNat) 0 ((3 * mi (28 + b.toNat) 0 + x + 2).tdiv 4) 59 b = mi (28 + b.toNat) 0 := (fC 59 b (by decide)).trans k2.2.1.1
  show RS (aup (aup (aup mi (28 + b.toNat) 0 ((3 * mi (28 + b.toNat) 0 + x + 2).tdiv 4)) 58 0 0) 59 b ((3 * aup mi (28 + b.toNat) 0 ((3 * mi (28 + b.toNat) 0 + x + 2).tdiv 4) 59 b + x + 2).tdiv 4)) mr E
  rw [e59]
  exact key
theorem o_setPowerLimit (h : RS mi mr E) {x : Int} (h_x : -2147483648 ≤ x ∧ x ≤ 2147483647) : OP yX6_setPowerLimit cX6_setPowerLimit 3 2 yX7_setPowerLimit cX7_setPowerLimit 3 2 [iI x] mi mr := by
  have hk0 := h.1.2.2
  have hen := h.1.2.1
  have hn0 := kc_n hk0
  refine OP.c h (s_X6_setPowerLimit h.1.1 h_x (kc_pl hk0)) (fun hr y j hy => aup_a (by omega)) (fun m1 f => s_X7_setPowerLimit h.1.1 h_x (by rw [f 58 7 (by decide)]; exact km_pl hk0)) (fun m1 f => by rw [f 58 7 (by decide), hk0.2.1.2.1]) (fun hr => ?_)
  have hx : 1 ≤ x ∧ x ≤ 12 := by
    split at hr
    · next hx => exact hx
    · omega
  have hk : KK mi (aup (aup mi 1 14 x) 58 0 0) E := RR_go h.1 (fun y j hy => aup_a (by omega))
  exact RS_e h.1.1 hen (fun y j hy => (aup_a (by omega)).trans (lo_up hy j)) (st_power hen hk hx) (K8_fr h.2 (fun y j q => aup_a (by omega)) (by rw [aup_k (by decide)]; exact Int.le_refl _))
theorem o_setShakeLimit (h : RS mi mr E) {x : Int} (h_x : -2147483648 ≤ x ∧ x ≤ 2147483647) : OP yX6_setShakeLimit cX6_setShakeLimit 3 2 yX7_setShakeLimit cX7_setShakeLimit 3 2 [iI x] mi mr := by
  have hk0 := h.1.2.2
  have hen := h.1.2.1
  have hn0 := kc_n hk0
  refine OP.c h (s_X6_setShakeLimit h.1.1 h_x (kc_sl hk0)) (fun hr y j hy => aup_a (by omega)) (fun m1 f => s_X7_setShakeLimit h.1.1 h_x (by rw [f 58 8 (by decide)]; exact km_sl hk0)) (fun m1 f => by rw [f 58 8 (by decide), hk0.2.1.2.2.1]) (fun hr => ?_)
  have hx : 0 ≤ x ∧ x ≤ 100000 := by
    split at hr
    · next hx => exact hx
    · omega
  have hk : KK mi (aup (aup mi 1 15 x) 58 0 0) E := RR_go h.1 (fun y j hy => aup_a (by omega))
  exact RS_e h.1.1 hen (fun y j hy => (aup_a (by omega)).trans (lo_up hy j)) (st_limit hen hk hx) (K8_fr h.2 (fun y j q => aup_a (by omega)) (by rw [aup_k (by decide)]; exact Int.le_refl _))
theorem o_stopMotor (h : RS mi mr E) {b : Int} (h_b : -2147483648 ≤ b ∧ b ≤ 2147483647) : OP yX6_stopMotor cX6_stopMotor 2 2 yX7_stopMotor cX7_stopMotor 2 3 [iI b] mi mr := by
  have hk0 := h.1.2.2
  have hen := h.1.2.1
  have hn0 := kc_n hk0
  refine OP.c h (s_X6_stopMotor h.1.1 h_b (kc_B hk0)) (fun hr x j hx => aup_a (by omega)) (fun m1 f => s_X7_stopMotor h.1.1 h_b (by rw [f 58 6 (by decide)]; exact km_n hk0) (fun i i0 i1 => by rw [f 58 6 (by decide)] at i1; rw [f 86 i (by decide), f 87 i (by decide), f 89 i (by decide)]; exact km_hz hk0 i i0 i1)) (fun m1 f => by rw [f 58 6 (by decide), f 86 b (by decide), f 89 b (by decide)]; exact an_amplitude hk0) (fun hr => ?_)
  have hc : (0 ≤ b ∧ b < mi 1 11) ∧ True := by
    split at hr
    · next hx => exact ⟨hx, trivial⟩
    · omega
  have hb : 0 ≤ b ∧ b < mi 1 11 := hc.1
  have k2 := kk2 hk0 hb.1 hb.2
  have q := kk_bell hk0 (b := b) ⟨hb.1, by omega⟩
  have fC : ∀ (y : Nat) (j : Int), 58 ≤ y → aup mi (28 + b.toNat) 7 (0) y j = mi y j := fun y j hy => aup_a (by omega)
  have hk : KK mi (aup (aup mi (28 + b.toNat) 7 (0)) 58 0 0) E := RR_go h.1 fC
  have key : RS (aup (aup (aup mi (28 + b.toNat) 7 (0)) 58 0 0) 88 b (0)) mr E := RS_e h.1.1 hen (fun x j hx => (aup_a (by omega)).trans (lo_up hx j)) (st_cell hen hk hb (Or.inr (Or.inl ⟨rfl, rfl, rfl⟩))) (K8_fr h.2 (fun x j q => aup_a (by omega)) (by rw [aup_a (by omega)]; exact Int.le_refl _))
  exact key
theorem o_holdClapper (h : RS mi mr E) {b : Int} (h_b : -2147483648 ≤ b ∧ b ≤ 2147483647) {x : Int} (hx : x = 0 ∨ x = 1) : OP yX6_holdClapper cX6_holdClapper 4 2 yX7_holdClapper cX7_holdClapper 4 3 [iI b, iI x] mi mr := by
  have hk0 := h.1.2.2
  have hen := h.1.2.1
  have hn0 := kc_n hk0
  refine OP.c h (s_X6_holdClapper h.1.1 h_b hx (kc_B hk0)) (fun hr y j hy => aup_a (by omega)) (fun m1 f => s_X7_holdClapper h.1.1 h_b hx (by rw [f 58 6 (by decide)]; exact km_n hk0) (fun i i0 i1 => by rw [f 58 6 (by decide)] at i1; rw [f 86 i (by decide), f 87 i (by decide), f 89 i (by decide)]; exact km_hz hk0 i i0 i1)) (fun m1 f => by rw [f 58 6 (by decide), f 87 b (by decide)]; exact if_b hk0 (fun b0 b1 => (kk2 hk0 b0 b1).1.2.1)) (fun hr => ?_)
  have hb : 0 ≤ b ∧ b < mi 1 11 := by
    split at hr
    · next hx => exact hx
    · omega
  have hk : KK mi (aup (aup mi (28 + b.toNat) 5 x) 58 0 0) E := RR_go h.1 (fun y j hy => aup_a (by omega))
  exact RS_e h.1.1 hen (fun y j hy => (aup_a (by omega)).trans (lo_up hy j)) (st_cell hen hk hb (Or.inl ⟨rfl, rfl, hx⟩)) (K8_fr h.2 (fun y j q => aup_a (by omega)) (by rw [aup_a (by omega)]; exact Int.le_refl _))
theorem o_addEntry (h : RS mi mr E) {w : Int} (h_w : -2147483648 ≤ w ∧ w ≤ 2147483647) {T : Int} (h_T : -2147483648 ≤ T ∧ T ≤ 2147483647) {P : Int} (h_P : -2147483648 ≤ P ∧ P ≤ 2147483647) {s : Int} (h_s : -2147483648 ≤ s ∧ s ≤ 2147483647) {W : Int} (h_W : -2147483648 ≤ W ∧ W ≤ 2147483647) : OP yX6_addEntry cX6_addEntry 7 2 yX7_addEntry cX7_addEntry 6 3 [iI w, iI T, iI P, iI s, iI W] mi mr := by
  have hk0 := h.1.2.2
  have hen := h.1.2.1
  have hn0 := kc_n hk0
  have HC9 : 0 ≤ (if 0 ≤ w ∧ w < 5 then (if ((0 ≤ T ∧ T ≤ 100000) ∧ (P = 0 ∨ (200 ≤ P ∧ P ≤ 50000)) ∧ (1 ≤ s ∧ s ≤ 200) ∧ (0 ≤ W ∧ W ≤ 500)) then (if mi 1 12 < 8 then mi 1 12 else -4) else -3) else -2) → (0 ≤ w ∧ w < 5) ∧ ((0 ≤ T ∧ T ≤ 100000) ∧ (P = 0 ∨ (200 ≤ P ∧ P ≤ 50000)) ∧ (1 ≤ s ∧ s ≤ 200) ∧ (0 ≤ W ∧ W ≤ 500)) ∧ mi 1 12 < 8 := by
    intro hr
    split at hr
    · next h1 =>
      split at hr
      · next h2 =>
        split at hr
        · next h3 => exact ⟨h1, h2, h3⟩
        · omega
      · omega
    · omega
  refine OP.c h (s_X6_addEntry h.1.1 h_w h_T h_P h_s h_W hen (kc_e8 hk0)) (fun hr x j hx => (by have hn := (HC9 hr).2.2; have ee := (hen.1 (mi 1 12) (kc_e8 hk0).1 hn).2; exact aeC_o (c := mi) (e := E (mi 1 12)) (by omega) (by omega))) (fun m1 f => s_X7_addEntry h.1.1 h_w h_T h_P h_s h_W (by rw [hi_up (by decide), f 58 42 (by decide)]; exact km_e8 hk0)) (fun m1 f => by rw [hi_up (x := 58) (j := 42) (by decide), f 58 42 (by decide), hk0.2.1.2.2.2.2.1]) (fun hr => ?_)
  obtain ⟨hw, hT, hn⟩ := HC9 hr
  have ee := (hen.1 (mi 1 12) (kc_e8 hk0).1 hn).2
  have fC : ∀ (x : Nat) (j : Int), 58 ≤ x → aeC mi (E (mi 1 12)) (mi 1 12) w T P s W x j = mi x j := fun x j hx => aeC_o (by omega) (by omega)
  have hk : KK mi (aup (aeC mi (E (mi 1 12)) (mi 1 12) w T P s W) 58 0 0) E := RR_go h.1 fC
  have e42 : aup (aeC mi (E (mi 1 12)) (mi 1 12) w T P s W) 58 0 0 58 42 = mi 1 12 := hk.2.1.2.2.2.2.1
  have key : RS (aeM (aup (aeC mi (E (mi 1 12)) (mi 1 12) w T P s W) 58 0 0) (aup (aeC mi (E (mi 1 12)) (mi 1 12) w T P s W) 58 0 0 58 42) w T P s W) mr E := by
    rw [e42]
    exact RS_e h.1.1 hen (fun x j hx => (aeM_o (by omega) (by omega)).trans (lo_up hx j)) (st_addEntry hen hk hn hw hT) (K8_fr h.2 (fun x j q => aeC_o (by omega) (by omega)) (by rw [aeC_o (by omega) (by omega)]; exact Int.le_refl _))
  exact key
end OPS2
